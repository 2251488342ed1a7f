/**
 * Promise 3, its faults: in each row a ^ stands ahead of the place of the fault (and is
 * no part of the text).
 */
public final class FaultsTest {
    private static final Sheet sheet = new Sheet();
    private static final String LOOP = "nest i from 0 to 3:";

    public static void main(String[] args) {
        tokens();
        everyByte();
        goingOn();
        leastOfOnePlace();
        variables();
        tooMany();
        tooLarge();
        fine();
        sheet.end("FaultsTest");
    }

    private static void fault(int kind, String marked) {
        int place = marked.indexOf('^');
        String text = marked.substring(0, place) + marked.substring(place + 1);
        LoopTiler x = Sheet.told(LOOP + "a[i]=b[i]");
        x.tile(0, 0, 1, 3);
        sheet.due("text " + marked, Sheet.tell(x, text), -2 - (8 * place + kind));
        sheet.due("count(5) behind " + marked, x.count(5), 0);
        sheet.due("nest(0, 1) behind " + marked, x.nest(0, 1), 4);
        sheet.due("nest(0, 6) behind " + marked, x.nest(0, 6), 3);
    }

    private static void tokens() {
        fault(1, "^");
        fault(1, "^@");
        fault(1, "  ^");
        fault(1, "nest^\ti from 0 to 3:a[i]=");
        fault(1, "nest^\ri from 0 to 3:a[i]=");
        fault(1, "nest ^I from 0 to 3:a[i]=");
        fault(1, "nest i from 0 to 3^.:a[i]=");
        fault(1, LOOP + "a[i]=^\0");
        fault(1, LOOP + "a[i]=^" + (char) 233);
        fault(1, "^Nest i from 0 to 3:a[i]=");
        fault(1, "nest i from 12^3 to 3:a[i]=");
        fault(1, "nest i from 1 ^2 to 3:a[i]=");
        fault(1, LOOP + "a[10^0]=");
        fault(1, "^nesti from 0 to 3:a[i]=");
        fault(1, "nest ^ifrom 0 to 3:a[i]=");
        fault(1, "nest i ^fro m 0 to 3:a[i]=");
    }

    /** Each byte at each of some places: whether it begins a token, and whether a text goes on with that. */
    private static void everyByte() {
        for (int b = 0; b < 256; b++) {
            char sign = (char) b;
            boolean blank = b == 32 || b == 10;
            everyByteAt(LOOP + "a[i]=", sign, blank, sign == ',' || sign == ';' || sign >= 'a' && sign <= 'd');
            everyByteAt("", sign, false, blank);
            everyByteAt(LOOP, sign, false, blank || sign >= 'a' && sign <= 'd');
            everyByteAt(LOOP + "a[", sign, false, blank || sign == '-' || sign == 'i' || sign >= '0' && sign <= '9');
            everyByteAt(LOOP + "a[1", sign, false, blank || "+-*]".indexOf(sign) >= 0 || sign >= '0' && sign <= '9');
            everyByteAt(LOOP + "a[11", sign, false, blank || "+-]".indexOf(sign) >= 0);
        }
    }

    /** Whole: the text has no fault then. Going on: its fault is that it ends behind the byte. */
    private static void everyByteAt(String ahead, char sign, boolean whole, boolean goingOn) {
        int place = ahead.length() + (goingOn ? 1 : 0);
        int due = whole ? 1 : -2 - (8 * place + 1);
        if (ahead.endsWith("[") && (sign == 'j' || sign == 'k')) {
            due = -2 - (8 * place + 2);
        }
        if (ahead.endsWith("11") && sign == '*') {
            due = -2 - (8 * (place - 2) + 2);
        }
        sheet.due("byte " + (int) sign + " behind " + ahead, Sheet.tell(new LoopTiler(), ahead + sign), due);
    }

    /** What is a fault of two kinds at one place is that of the least. */
    private static void leastOfOnePlace() {
        fault(1, LOOP + "a[i ^j]=");
        fault(1, LOOP + "a[i ^10*i]=");
        fault(1, LOOP + "a[1 ^10*i]=");
        fault(1, LOOP + "a[i]=^10*i");
        fault(1, LOOP + "a[i]=^j");
        fault(1, "nest i from 0 to 3 ^j:a[i]=");
        fault(1, "nest i from 0 ^10*i to 3:a[i]=");
        fault(1, "nest ^k from 0 to 3:a[i]=");
        fault(1, LOOP + "^j[i]=");
        fault(1, LOOP + "a[i]=a[i]a[i]a[i]a[i]^j");
    }

    private static void goingOn() {
        fault(1, "^nesta i from 0 to 3:a[i]=");
        fault(1, "^nestz i from 0 to 3:a[i]=");
        fault(1, "^best i from 0 to 3:a[i]=");
        fault(1, "^nesu i from 0 to 3:a[i]=");
        fault(1, "^nes i from 0 to 3:a[i]=");
        fault(1, "nest i ^grom 0 to 3:a[i]=");
        fault(1, "nest i ^fron 0 to 3:a[i]=");
        fault(1, "nest i from 0 ^uo 3:a[i]=");
        fault(1, "nest i from 0 ^tp 3:a[i]=");
        fault(1, "nest i from 0 ^t 3:a[i]=");
        fault(1, "nest ^h from 0 to 3:a[i]=");
        fault(1, "nest ^l from 0 to 3:a[i]=");
        fault(1, LOOP + "a[^h]=");
        fault(1, LOOP + "a[^l]=");
        fault(1, "nest ^:a[0]=");
        fault(1, "nest ^,i from 0 to 3:a[i]=");
        fault(1, "nest ^nest i from 0 to 3:a[i]=");
        fault(1, LOOP + "^=");
        fault(1, LOOP + "^ab[i]=");
        fault(1, LOOP + "a[^ii]=");
        fault(1, LOOP + "a[i]=^aa[i]");
        fault(1, LOOP + "a[^+1]=");
        fault(1, LOOP + "a[-^]=");
        fault(1, LOOP + "a[10^@*i]=");
        fault(1, LOOP + "a[^*i]=");
        fault(1, LOOP + "a[i][^]=");
        fault(1, LOOP + "a[i]^;" + LOOP + "a[i]=");
        fault(1, LOOP + "a[i]=b[i]^:");
        fault(1, LOOP + "^;" + LOOP + "a[i]=");
        fault(1, "nest i from 0 to 3^;");
        fault(1, "  nest i from 0 to 3:a[i]   ^");
        fault(1, "^;" + LOOP + "a[i]=");
        fault(1, "nest^");
        fault(1, "nest ^j from 0 to 3:a[i]=");
        fault(1, "^i from 0 to 3:a[i]=");
        fault(1, "nest i ^to 3:a[i]=");
        fault(1, "nest i from ^to 3:a[i]=");
        fault(1, "nest i from ^+ 1 to 3:a[i]=");
        fault(1, "nest i from - ^- 1 to 3:a[i]=");
        fault(1, "nest i from 0 ^: a[i]=");
        fault(1, "nest i from 0 to 3 ^a[i]=");
        fault(1, "nest i from 0 to 3,^k from 0 to 3:a[i]=");
        fault(1, "nest i from 0 to 3,^i from 0 to 3:a[i]=");
        fault(1, "nest i from 0 to 3,j from 0 to 3,^j from 0 to 3:a[i]=");
        fault(1, "nest i from 0 to 3,^:a[i]=");
        fault(1, LOOP + "^");
        fault(1, LOOP + "^e[i]=");
        fault(1, LOOP + "^i[i]=");
        fault(1, LOOP + "a^=");
        fault(1, LOOP + "a[^]=");
        fault(1, LOOP + "a[i^=");
        fault(1, LOOP + "a[i]^");
        fault(1, LOOP + "a[i][i]^[i]=");
        fault(1, LOOP + "a[i]^,a[i]=");
        fault(1, LOOP + "a[i]=b[i][i]^[i]");
        fault(1, LOOP + "a[i]=b[i]^=");
        fault(1, LOOP + "a[i]=^x[i]");
        fault(1, LOOP + "a[i]=b^");
        fault(1, LOOP + "a[i]=,^");
        fault(1, LOOP + "a[i]=;^");
        fault(1, LOOP + "a[i]=;  ^");
        fault(1, LOOP + "a[i]=;^a");
        fault(1, LOOP + "a[2*^3]=");
        fault(1, LOOP + "a[2*^]=");
        fault(1, LOOP + "a[2^i]=");
        fault(1, LOOP + "a[i^*2]=");
        fault(1, LOOP + "a[2*i^*i]=");
        fault(1, LOOP + "a[i+^]=");
        fault(1, LOOP + "a[i+^-1]=");
        fault(1, LOOP + "a[^a]=");
        fault(1, LOOP + "a[^nest]=");
        fault(1, LOOP + "a[i]=b[i] ^nest");
    }

    private static void variables() {
        fault(2, "nest i from ^i to 3:a[i]=");
        fault(2, "nest i from 0 to ^i:a[i]=");
        fault(2, "nest i from 0 to 3-^k:a[i]=");
        fault(2, "nest i from 0 to 3,j from ^j to 3:a[i]=");
        fault(2, "nest i from 0 to 3,j from i to 2*^j:a[i]=");
        fault(2, "nest i from 0 to 3,j from i to ^k,k from 0 to 1:a[i]=");
        fault(2, "nest i from 0 to 1,j from 0 to 1,k from i+j to ^k:a[i]=");
        fault(2, LOOP + "a[^j]=");
        fault(2, LOOP + "a[i]=b[i][1-^k]");
        fault(2, "nest i from 0 to 1,j from 0 to 1:a[i+j+^k]=");
        fault(2, LOOP + "a[^10*i]=");
        fault(2, LOOP + "a[^10 \n *j]=");
        fault(2, LOOP + "a[^99*]=");
        fault(2, LOOP + "a[^10*10]=");
        fault(2, "nest i from 0 to 1,j from 0 to 1:a[j]=;nest i from 0 to 1:a[^j]=");
        fault(2, "nest i from 0 to ^10*i:a[j]=@");
        fault(2, LOOP + "a[^j+1+1+1+1]=");
        fault(2, "nest i from ^j to 3,j from 0 to 3:a[i]=");
        fault(2, "nest i from 9*^i to 3:a[i]=");
        fault(2, "nest i from ^10*i to 3:a[i]=");
        fault(2, "nest i from 0 to 3,j from ^10*i to 3:a[i]=");
        fault(2, "nest i from 0 to 3,j from 0*^j to 3:a[i]=");
        fault(2, "nest i from 0 to 3,j from 0 to 3,k from ^k to 3:a[i]=");
        fault(2, LOOP + "a[i][0*^j]=");
        fault(2, LOOP + "a[i]=a[^k][i]");
        fault(2, LOOP + "a[1+1+1+^11*i]=");
        fault(2, LOOP + "a[-^10*i+1+1+1+1]=");
    }

    private static void tooMany() {
        fault(3, "nest i from 0 to 1,j from 0 to 1,k from 0 to 1^,l from 0 to 1:a[i]=");
        fault(3, "nest i from 0 to 1,j from 0 to 1,k from 0 to 1^,");
        fault(3, LOOP + "a[i]=,b[i]=,c[i]=,d[i]=^,a[i]=");
        fault(3, LOOP + "a[i]=,b[i]=,c[i]=,d[i]=^,");
        fault(3, LOOP + "a[i]=a[i]a[i]a[i]a[i]^a[i]");
        fault(3, LOOP + "a[i]=a[i]a[i]a[i]a[i] ^b");
        fault(1, LOOP + "a[i]=a[i]a[i]a[i]a[i]^e[i]");
        fault(3, LOOP + "a[1+1+1+1^+1]=");
        fault(3, LOOP + "a[-1-1-1-1^-]=");
        fault(3, "nest i from 1+1+1+1^+j to 3:a[i]=");
        fault(3, LOOP + "a[i]=;" + LOOP + "a[i]=^;" + LOOP + "a[i]=");
        fault(3, LOOP + "a[i]=;" + LOOP + "a[i]=^;");
        // what stands behind it, or is not there at all, is of no matter
        fault(3, "nest i from 0 to 1,j from 0 to 1,k from 0 to 1 ^, @");
        fault(3, LOOP + "a[i]=,a[i]=,a[i]=,a[i]= ^,:");
        fault(3, LOOP + "a[i]=a[i]a[i]a[i]a[i]^a[j]");
        fault(3, LOOP + "a[1-1+1-1 ^+ 10*i]=");
        fault(3, LOOP + "a[-i-i-i-i^+i]=");
        fault(3, LOOP + "a[1][1+1+1+1^-1]=");
        fault(3, "nest i from 0 to 1+1+1+1^+1:a[i]=");
        fault(3, LOOP + "a[i]=,a[i]=,a[i]=,a[i]=;" + LOOP + "a[i]=,a[i]=,a[i]=,a[i]=^,a[i]=");
        fault(3, LOOP + "a[i]=a[i]a[i]a[i]a[i],a[i]=a[i]a[i]a[i]a[i]^a[i]");
        // a fault further to the left counts, whichever its kind
        fault(2, LOOP + "a[^j]=a[i]a[i]a[i]a[i]a[i]");
        fault(3, LOOP + "a[i]=a[i]a[i]a[i]a[i]^a[i],a[j]=@");
        fault(1, LOOP + "a[^]=a[i]a[i]a[i]a[i]a[j]");
    }

    private static void tooLarge() {
        // 501 turns
        fault(4, "^nest i from -99-99-99 to 99+99+5:a[i]=");
        fault(4, "^nest i from 0 to 2,j from 1 to 99+68:a[i]=");
        fault(4, "^nest i from 0 to 2,j from 0 to 0,k from 1 to 99+68:a[i]=");
        fault(4, "nest i from 1 to 5,j from 1 to 99+1:a[i]=; ^nest i from 0 to 2,j from 1 to 99+68:a[i]=");
        fault(4, "^nest i from 0 to 2,j from 1 to 99+68:a[i]=;nest i from 0 to 2:a[i]=");
        // the first nest that has it, though it is smaller than the other one
        fault(4, " ^nest i from 99 to 99,j from 9*i+99+10 to 9*i+99+10:a[i]=;nest i from 0 to 22,j from 0 to 22:a[i]=");
        // 1000, -1000: of one value among others, with turns and without
        fault(4, "^nest i from 99 to 99,j from 9*i+99+9 to 9*i+99+10:a[i]=");
        fault(4, "^nest i from 99 to 99,j from -9*i-99-10 to -9*i-99-9:a[i]=");
        fault(4, "^nest i from 99 to 99,j from 9*i+99+10 to 9*i+99+10,k from 1 to 0:a[i]=");
        fault(4, "^nest i from 99 to 99,j from -9*i-99-10 to -9*i-99-10,k from 1 to 0:a[i]=");
        fault(4, "^nest i from 0 to 99,j from 9*i+99+10 to 99+99+9*i:a[i]=");
        fault(4, "^nest i from -99 to 0,j from 9*i-99-10 to 9*i-99-10,k from i to -99:a[i]=");
        // 505 turns, and many pairs of i, j that have less than none
        fault(4, "^nest i from 0 to 2,j from 0 to 99+1,k from 0 to 3*i-3:a[i]=");
        // another fault of the text counts alone, wherever it stands
        fault(3, "nest i from 0 to 99,j from 0 to 5:a[i]=;" + LOOP + "a[i]=^;");
        fault(4, "^nest i from 0 to 22,j from 0 to 22:a[i]=");
        fault(4, "  ^nest i from -99-99-99 to 99+99+6:a[i]=");
        fault(4, LOOP + "a[i]=; ^nest i from 0 to 99,j from 0 to 5:a[i]=");
        fault(4, "^nest i from 0 to 99,j from 0 to 5:a[i]=;nest i from 0 to 99,j from 0 to 5:a[i]=");
        fault(4, "^nest i from 0 to 99,j from 9*i+9*i to 9*i+9*i:a[i]=");
        fault(4, "^nest i from 0 to 99,j from -9*i-9*i to -9*i-9*i:a[i]=");
        fault(4, "^nest i from 0 to 99,j from 9*i+9*i to 9*i+9*i,k from 1 to 0:a[i]=");
        fault(4, "^nest i from 99 to 99,j from 9*i to 9*i,k from j+99+10 to j+99+10:a[i]=");
        fault(4, "^nest i from 99 to 99,j from -9*i to -9*i,k from j-99-10 to j-99-10:a[i]=");
        fault(1, "nest i from 0 to 99,j from 0 to 5:a[i]=;^");
        fault(2, "nest i from 0 to 99,j from 0 to 5:a[i]=a[^k]");
    }

    private static void good(int nests, int turns, String text) {
        LoopTiler x = new LoopTiler();
        sheet.due("text " + text, Sheet.tell(x, text), nests);
        sheet.due("turns of " + text, x.nest(0, 1), turns);
    }

    private static void fine() {
        good(1, 4, LOOP + "a[i]=");
        good(1, 4, "\n nest\ni\nfrom 0to 3:a[i]= \n");
        good(1, 4, "nest i from0to3:a[i]=b[i]c[i]d[i]a[i]");
        good(1, 0, "nest i from 3 to 0:a[i]=");
        good(1, 500, "nest i from 0 to 99,j from 0 to 4:a[i]=");
        good(1, 500, "nest i from -99-99-99-99 to 99+4:a[i]=");
        good(1, 1, "nest i from 99 to 99,j from 9*i to 9*i,k from j+99+9 to j+99+9:a[i]=");
        good(1, 1, "nest i from 99 to 99,j from -9*i to -9*i,k from j-99-9 to j-99-9:a[i]=");
        good(1, 500, "nest i from 0 to 2,j from 0 to 99,k from 0 to 3*i-3:a[i]=");
        // a variable takes no value where its loop is empty
        good(1, 0, "nest i from 99 to 99,j from 9*i+9*i to 9*i:a[i]=");
        good(1, 0, "nest i from 0 to 99,j from 9*i+9*i+1 to 9*i+9*i,k from 1 to 1:a[i]=");
        // nor where a loop ahead of it is empty
        good(1, 0, "nest i from 99 to 99,j from 1 to 0,k from 9*i+9*i to 9*i+9*i:a[i]=");
        good(1, 0, "nest i from 1 to 0,j from 0 to 99+99+99+99,k from 0 to 99+99+99+99:a[i]=");
        good(1, 1, "nest i from 99 to 99,j from 9*i+99+9 to 9*i+99+9:a[i]=");
        good(1, 1, "nest i from 99 to 99,j from -9*i-99-9 to -9*i-99-9:a[i]=");
        good(1, 2, "nest i from 0 to 1,j from i to i,k from 0 to 0:a[i+j+k][9*i-9*j+9*k-99]=");
        good(1, 4, LOOP + "a[i][i]=b[99][-99]");
        good(1, 4, LOOP + "a[-i-i-i-i][-9*i+9*i-99+0]=");
        good(1, 4, LOOP + "a[09*i-00*i]=");
        good(1, 4, LOOP + "a[-i+i-9*i+99][1]=a[1]");
        good(2, 4, LOOP + "a[i]=;" + LOOP + "a[i]=");
        good(2, 4, LOOP + "a[i]=,a[i]=,a[i]=,a[i]=b[i];nest i from 0 to 1,j from i to 1,k from j to i+j:a[k]=");
    }
}
