/** Promises 10 to 12: a test for each sentence of the document that names an edge; the sentence stands ahead of it. */
public final class EdgesOfTextsTest {
    public static void main(String[] args) {
        feedOneToEight();
        feedUpToSixty();
        feedNegativeWords();
        textOfAnotherUse();
        emptyTape();
        faultKeepsTheOneAhead();
        digits();
        comparedOnce();
        endsTooEarly();
        fullTape();
        openAtOnce();
        everyByte();
        byZero();
        wraps();
        truths();
        heldWithin();
        shoesGive();
        untellTwice();
        Due.end();
    }

    /** The worth of a TEXT that has no NAMES: DOUBT, for numbers 0 .. 99. */
    private static void worth(String text, int want) {
        ShodBackwards x = new ShodBackwards();
        Due.is("11 " + text, Due.text(x, 1, text), 1);
        Due.is("11 worth of " + text, x.cellIs(0, 4), want);
    }

    private static void fault(String text, int want) {
        ShodBackwards x = new ShodBackwards();
        Due.is("11 fault of " + text, Due.text(x, 1, text), -10 - want);
    }

    /** "The n lowest bytes (1 .. 8) of a word, the lowest first". */
    private static void feedOneToEight() {
        // Of 1+2+3+4+ from the lowest byte on.
        long word = 0x2b342b332b322b31L;
        int[] sums = {1, 0, 3, 0, 6, 0, 10, 0};
        for (int n = 1; n <= 8; n++) {
            ShodBackwards x = new ShodBackwards();
            Due.is("10 so many", x.feed(word, n), n);
            Due.is("10 in all", x.count(4), n);
            Due.is("10 text of " + n, x.text(1), n % 2 == 1 ? 1 : -10 - n);
            if (n % 2 == 1) {
                Due.is("10 sum of " + n, x.cellIs(0, 4), sums[n - 1]);
            }
        }
    }

    /** "bytes, at most 60"; "BEYOND. FULL.": either all n come or none. */
    private static void feedUpToSixty() {
        for (int n = 1; n <= 8; n++) {
            ShodBackwards x = new ShodBackwards();
            int there = 0;
            while (there + n <= 60) {
                there += n;
                Due.is("10 by " + n, x.feed(0x3131313131313131L, n), there);
            }
            Due.is("10 full for " + n, x.feed(0x3131313131313131L, n), Due.FULL);
            Due.is("10 none came", x.count(4), there);
            if (there < 60) {
                Due.is("10 the rest does", x.feed(0x3131313131313131L, 60 - there), 60);
            }
            Due.is("10 full for 1", x.feed(0x31L, 1), Due.FULL);
            Due.is("10 they are 1s", x.text(1), -14);
            Due.is("10 room again", x.feed(0x31L, 8), 8);
        }
    }

    /** A byte is 0 .. 255 whatever the word's sign; no sign above 127 is a NAME. */
    private static void feedNegativeWords() {
        ShodBackwards x = new ShodBackwards();
        x.feed(0xffffffffffffff35L, 1);
        Due.is("10 lowest of a negative word", x.text(1), 1);
        Due.is("10 is 5", x.cellIs(0, 4), 5);
        x.feed(Long.MIN_VALUE | 0x35L, 8);
        Due.is("10 zeros behind 5", x.text(1), -11);
        x.feed(0x35b5L, 2);
        Due.is("10 high byte", x.text(1), -10);
        x.feed(0x80000000000035L, 7);
        Due.is("10 seven", x.text(1), -11);
    }

    /** "BEYOND (THE TAPE stays)": it is a TEXT of the next USE still. */
    private static void textOfAnotherUse() {
        for (int use : new int[] {Integer.MIN_VALUE, -1, 2, Integer.MAX_VALUE}) {
            ShodBackwards x = new ShodBackwards();
            Due.feed(x, "42");
            Due.is("11 use " + use, x.text(use), Due.BEYOND);
            Due.is("11 the tape stays", x.count(4), 2);
            Due.is("11 its bytes stay", x.text(1), 1);
            Due.is("11 the text", x.cellIs(0, 4), 42);
            Due.is("11 empty then", x.count(4), 0);
        }
    }

    /** "how many there are, if it ends too early": none. */
    private static void emptyTape() {
        ShodBackwards x = new ShodBackwards();
        Due.is("11 empty at first", x.text(0), -10);
        Due.is("11 empty at first", x.text(1), -10);
        Due.text(x, 1, "7");
        Due.is("11 empty behind a text", x.text(1), -10);
        Due.is("11 the one ahead stays", x.cellIs(0, 4), 7);
        for (int k = 1; k <= 6; k++) {
            Due.is("11 no error", x.told(k), 0);
        }
    }

    /** "no ERROR; the one ahead stays; THE TAPE is empty, too". */
    private static void faultKeepsTheOneAhead() {
        ShodBackwards x = new ShodBackwards();
        x.rider(60, 0);
        Due.ride(x, 0, "ee");
        Due.is("11 shoes", Due.text(x, 0, "2"), 1);
        Due.is("11 doubt", Due.text(x, 1, "3"), 1);
        Due.is("11 fault", Due.text(x, 0, "3!"), -11);
        Due.is("11 the tape is empty", x.count(4), 0);
        Due.is("11 fault", Due.text(x, 1, "4("), -11);
        Due.is("11 the tape is empty", x.count(4), 0);
        x.hours(1);
        Due.is("11 shoes stay", x.print(0, 1), 2);
        Due.is("11 doubt stays", x.cellIs(0, 4), 3);
        Due.is("11 no error", x.told(1), 0);
        ShodBackwards y = new ShodBackwards();
        Due.is("11 fault", Due.text(y, 1, "n+"), -12);
        Due.is("11 none ahead, none then", y.untell(1), 0);
    }

    /** "a NUMBER of 1 to 4 digits". */
    private static void digits() {
        worth("9", 9);
        worth("09", 9);
        worth("009", 9);
        worth("0009", 9);
        fault("00009", 4);
        fault("10000", 4);
        fault("123456", 4);
        worth("9999-9900", 99);
        fault("1+00000", 6);
        fault("(99999)", 5);
        fault("!12345", 5);
    }

    /** "B: S, or S < S, S = S, S > S": not S < S < S, but for ( ) and behind & or |. */
    private static void comparedOnce() {
        for (String first : new String[] {"<", "=", ">"}) {
            for (String second : new String[] {"<", "=", ">"}) {
                fault("1" + first + "2" + second + "3", 3);
                worth("(1" + first + "1)" + second + "9+90", second.equals("<") ? 1 : 0);
                Due.is("11 behind &", Due.text(new ShodBackwards(), 1, "1" + first + "2&3" + second + "4"), 1);
                Due.is("11 behind |", Due.text(new ShodBackwards(), 1, "1" + first + "2|3" + second + "4"), 1);
            }
        }
    }

    private static void endsTooEarly() {
        for (String operator : new String[] {"|", "&", "<", "=", ">", "+", "-", "*", "/", "%"}) {
            fault("n" + operator, 2);
            fault("n" + operator + operator, 2);
            fault(operator + "n", 0);
            fault("(n" + operator + ")", 3);
        }
        fault("!", 1);
        fault("(", 1);
        fault("(n", 2);
        fault("((n)", 4);
        fault("!!", 2);
        fault("n)", 1);
        fault("n!n", 1);
        fault("n(n)", 1);
        fault("nn", 1);
        fault("n1", 1);
        fault("1n", 1);
        fault("(n)n", 3);
        fault("(n)1", 3);
        fault("n n", 1);
        fault("\n", 0);
    }

    /** "bytes, at most 60": a TEXT of 60, and one that ends too early there. */
    private static void fullTape() {
        worth("1+".repeat(28) + "1+10", 39);
        worth("0".repeat(3) + "1+".repeat(28) + "1", 29);
        fault("1+".repeat(30), 60);
        fault("(" + "1+".repeat(29) + "1", 60);
        fault("1+".repeat(29) + "1)", 59);
        ShodBackwards x = new ShodBackwards();
        Due.feed(x, "(" + "1+".repeat(29) + "1");
        Due.is("10 the sixty-first", x.feed(')', 1), Due.FULL);
        Due.is("11 ends too early", x.text(1), -70);
    }

    /** "At most 5 of ! and ( are open at once": five do, the sixth is the FAULT; those that are shut don't count. */
    private static void openAtOnce() {
        for (int signs = 0; signs < 64; signs++) {
            StringBuilder six = new StringBuilder();
            StringBuilder five = new StringBuilder();
            StringBuilder shut = new StringBuilder("7");
            for (int i = 0; i < 6; i++) {
                boolean denies = (signs >> i & 1) == 0;
                six.append(denies ? '!' : '(');
                if (i < 5) {
                    five.append(denies ? '!' : '(');
                    shut.append(denies ? "" : ")");
                }
            }
            fault(six + "7", 5);
            fault("1+" + six, 7);
            String whole = five.toString() + shut;
            Due.is("11 five open: " + whole, Due.text(new ShodBackwards(), 1, whole), 1);
            String again = whole + "*" + whole;
            Due.is("11 shut, opened anew: " + again, Due.text(new ShodBackwards(), 1, again), 1);
            fault(five.toString() + "(", 5);
            fault(whole + "+" + six, whole.length() + 6);
        }
    }

    /** Which bytes a TEXT begins with, and which go on behind a NAME. */
    private static void everyByte() {
        for (int b = 0; b < 256; b++) {
            String begins = "0123456789!(" + (char) 0;
            boolean digit = b >= '0' && b <= '9';
            boolean goesOn = b > 0 && begins.indexOf(b) >= 0;
            for (int use = 0; use < 2; use++) {
                String names = use == 0 ? "wsmg" : "nda";
                ShodBackwards x = new ShodBackwards();
                x.feed(b, 1);
                int want = digit || names.indexOf(b) >= 0 ? 1 : goesOn ? -11 : -10;
                Due.is("11 use " + use + ", first byte " + b, x.text(use), want);
                x.feed(names.charAt(0) | (long) b << 8, 2);
                boolean operator = b > 0 && "|&<=>+-*/%".indexOf(b) >= 0;
                Due.is("11 use " + use + ", next byte " + b, x.text(use), operator ? -12 : -11);
            }
        }
    }

    /** "/ cut, % the rest that it leaves, both by 0 are 0". */
    private static void byZero() {
        worth("7/0", 0);
        worth("7%0", 0);
        worth("0/0", 0);
        worth("0%0", 0);
        worth("(0-7)/0+5", 5);
        worth("(0-7)%0+5", 5);
        worth("5+7/(3-3)", 5);
        worth("7/2", 3);
        worth("9+(0-7)/2", 6);
        worth("9+7/(0-2)", 6);
        worth("9+(0-7)/(0-2)", 12);
        worth("7%2", 1);
        worth("9+(0-7)%2", 8);
        worth("9+7%(0-2)", 10);
        worth("9+(0-7)%(0-2)", 8);
        worth("0/7", 0);
        worth("6/7", 0);
        worth("7/7", 1);
        worth("7%7", 0);
        worth("6%7", 6);
    }

    /** "Ints that wrap". 32768 * 65536 is the least int. */
    private static void wraps() {
        String least = "8192*4*8192*8";
        worth(least + "<0", 1);
        worth(least + "-1>0", 1);
        worth("(" + least + "-1+1)<0", 1);
        worth(least + "=0-" + least, 1);
        worth(least + "/(0-1)=" + least, 1);
        worth(least + "%(0-1)+3", 3);
        worth(least + "*2", 0);
        worth(least + "*2+7", 7);
        worth("(" + least + "-1)*2+9", 7);
    }

    /** "| & < = > ! are 1 or 0, what is not 0 being true; all is worked out": 0 is 0, and nothing below it. */
    private static void truths() {
        String[] ones = {"3<4", "3=3", "4>3", "7|0", "0|7", "7|8", "7&8", "!0", "(0-1)|0", "(0-1)&(0-2)", "!!(0-5)"};
        String[] zeros = {"3<3", "4<3", "3=4", "3>3", "3>4", "0|0", "0&0", "7&0", "0&7", "!7", "!(0-1)", "!!0"};
        for (String one : ones) {
            worth("(" + one + ")+40", 41);
            worth("(" + one + ")*40+5", 45);
        }
        for (String zero : zeros) {
            worth("(" + zero + ")+40", 40);
            worth("(" + zero + ")*40+5", 5);
        }
        worth("1|7/0", 1);
        worth("0&7/0", 0);
        worth("(0-1)<0", 1);
        worth("0<(0-1)", 0);
    }

    /** "held within 0 .. 99; without a TEXT a"; "a ... (99: none)". */
    private static void heldWithin() {
        worth("0-1", 0);
        worth("0", 0);
        worth("1", 1);
        worth("98", 98);
        worth("99", 99);
        worth("100", 99);
        worth("9999*9999", 99);
        worth("0-9999*9999", 0);
        worth("8192*4*8192*8", 0);
        worth("8192*4*8192*8-1", 99);
        worth("a-99", 0);
        worth("n+d", 0);
    }

    private static int shown(String shoes) {
        ShodBackwards x = new ShodBackwards();
        x.rider(60, 14);
        x.way(0, 0);
        Due.is("11 shoes " + shoes, Due.text(x, 0, shoes), 1);
        x.hours(1);
        Due.is("11 goes in any case", x.riderIs(0, 2), 8);
        return x.count(3) == 0 ? -1 : x.print(0, 1);
    }

    /** "what SHOES gives, if that is below 0 none, else its rest by 4": 0, -1, the least and the greatest int. */
    private static void shoesGive() {
        Due.is("11 -1", shown("0-1"), -1);
        Due.is("11 0", shown("0"), 0);
        Due.is("11 3", shown("3"), 3);
        Due.is("11 4", shown("4"), 0);
        Due.is("11 -4", shown("0-4"), -1);
        Due.is("11 9999", shown("9999"), 3);
        Due.is("11 the least", shown("8192*4*8192*8"), -1);
        Due.is("11 the greatest", shown("8192*4*8192*8-1"), 3);
        Due.is("11 the greatest but one", shown("8192*4*8192*8-2"), 2);
    }

    /** "There is no TEXT of a USE any more: 1 if there was, else 0." */
    private static void untellTwice() {
        for (int use = 0; use < 2; use++) {
            ShodBackwards x = new ShodBackwards();
            Due.is("12 none at first", x.untell(use), 0);
            Due.text(x, use, "1");
            Due.is("12 none of the other", x.untell(1 - use), 0);
            Due.is("12 there was", x.untell(use), 1);
            Due.is("12 none any more", x.untell(use), 0);
            Due.text(x, use, "1+");
            Due.is("12 a fault is none", x.untell(use), 0);
            Due.is("12 beyond", x.untell(2), Due.BEYOND);
            Due.is("12 beyond", x.untell(-1), Due.BEYOND);
            Due.feed(x, "1");
            x.untell(use);
            Due.is("12 the tape stays", x.count(4), 1);
        }
    }
}
