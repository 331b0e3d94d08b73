/** Promises 10 to 12: THE TAPE, TEXTS. */
public final class TextsTest {
    public static void main(String[] args) {
        feed();
        text();
        worths();
        faults();
        depths();
        names();
        doubtIsHeld();
        untell();
        Due.end();
    }

    private static void feed() {
        ShodBackwards x = new ShodBackwards();
        for (int n : new int[] {Integer.MIN_VALUE, -1, 0, 9, Integer.MAX_VALUE}) {
            Due.is("10 n " + n, x.feed(0L, n), Due.BEYOND);
        }
        Due.is("10 eight bytes", x.feed(0x3837363534333231L, 8), 8);
        Due.is("10 is no number", x.text(1), -14);
        Due.is("10 lowest first", x.feed(0xFFFFFF00002B3231L, 3), 3);
        Due.is("10 comes behind", x.feed(0x39L, 1), 4);
        Due.is("10 text", x.text(1), 1);
        Due.is("10 12+9", x.cellIs(0, 4), 21);
        for (int i = 1; i <= 7; i++) {
            Due.is("10 how many", x.feed(-1L, 8), 8 * i);
        }
        Due.is("10 too many", x.feed(0L, 5), Due.FULL);
        Due.is("10 beyond first", x.feed(0L, 9), Due.BEYOND);
        Due.is("10 unchanged", x.count(4), 56);
        Due.is("10 to the end", x.feed(0L, 4), 60);
        Due.is("10 full", x.feed(0L, 1), Due.FULL);
        Due.is("10 still", x.count(4), 60);
        Due.is("10 high byte", x.text(1), -10);
        Due.is("10 highest byte", x.feed(0x3500000000000000L, 8), 8);
        Due.is("10 bytes 0", x.text(1), -10);
    }

    private static void text() {
        ShodBackwards x = new ShodBackwards();
        Due.feed(x, "7");
        for (int use : new int[] {Integer.MIN_VALUE, -1, 2, Integer.MAX_VALUE}) {
            Due.is("11 use " + use, x.text(use), Due.BEYOND);
        }
        Due.is("11 the tape stays", x.count(4), 1);
        Due.is("11 taken", x.text(1), 1);
        Due.is("11 the tape is empty", x.count(4), 0);
        Due.is("11 in force", x.cellIs(3, 4), 7);
        Due.is("11 fault", Due.text(x, 1, "8+"), -12);
        Due.is("11 the tape is empty, too", x.count(4), 0);
        Due.is("11 the one ahead stays", x.cellIs(3, 4), 7);
        Due.is("11 no error", x.told(1), 4);
        Due.is("11 in place", Due.text(x, 1, "8"), 1);
        Due.is("11 the new one", x.cellIs(3, 4), 8);
        Due.is("11 empty tape", x.text(1), -10);
        Due.is("11 another use", Due.text(x, 0, "9"), 1);
        Due.is("11 is another's", x.cellIs(3, 4), 8);
    }

    private static void worth(String text, int want) {
        ShodBackwards x = new ShodBackwards();
        Due.is("11 " + text, Due.text(x, 1, text), 1);
        Due.is("11 worth of " + text, x.cellIs(0, 4), want);
    }

    /** The CELL has no PRINTS: n is 0, d is 0, a is 99. */
    private static void worths() {
        worth("0", 0);
        worth("99", 99);
        worth("0007", 7);
        worth("n", 0);
        worth("d", 0);
        worth("a", 99);
        worth("(((((5)))))", 5);
        worth("2+3*4", 14);
        worth("(2+3)*4", 20);
        worth("20-3-4", 13);
        worth("20-(3-4)", 21);
        worth("40/7/2", 2);
        worth("40%7*3", 15);
        worth("7-9+5", 3);
        worth("(3-10)/2+9", 6);
        worth("(3-10)%4+9", 6);
        worth("7/0+3", 3);
        worth("7%0+3", 3);
        worth("7/n", 0);
        worth("1<2", 1);
        worth("2<2", 0);
        worth("2>1", 1);
        worth("2>2", 0);
        worth("2=2", 1);
        worth("2=3", 0);
        worth("(1<2)<3", 1);
        worth("1+2<2+2", 1);
        worth("5|0", 1);
        worth("0|0", 0);
        worth("(0|7)", 1);
        worth("!(3&0|0)", 1);
        worth("((1|0)+(0|1))*2", 4);
        worth("0|7", 1);
        worth("5&6", 1);
        worth("5&0", 0);
        worth("0&5", 0);
        worth("0&0|1", 1);
        worth("1|0&0", 1);
        worth("0|0&1", 0);
        worth("1|1&0", 1);
        worth("0=0&3", 1);
        worth("!0", 1);
        worth("!7", 0);
        worth("!!7", 1);
        worth("!0+4", 5);
        worth("!(0+4)", 0);
        worth("4*!0", 4);
        worth("!!!!!0", 1);
        worth("3-5=0-2", 1);
        worth("9999*9999*9999<0", 1);
        worth("9999*9999*9999%89", 9999 * 9999 * 9999 % 89 < 0 ? 0 : 9999 * 9999 * 9999 % 89);
        worth("(0-2147*1000*1000-483*1000-648)/(0-1)<0", 1);
        worth("(0-2147*1000*1000-483*1000-648)%(0-1)", 0);
        worth("1+".repeat(29) + "1", 30);
        worth("1+".repeat(29) + "11", 40);
        worth("1+(".repeat(5) + "1" + ")".repeat(5), 6);
    }

    private static void fault(String text, int want) {
        ShodBackwards x = new ShodBackwards();
        Due.is("11 fault of " + text, Due.text(x, 1, text), -10 - want);
        Due.is("11 no text", x.untell(1), 0);
    }

    private static void faults() {
        fault("", 0);
        fault(" 1", 0);
        fault("1 ", 1);
        fault("1+", 2);
        fault("+1", 0);
        fault("-1", 0);
        fault("1++1", 2);
        fault("12345", 4);
        fault("00000", 4);
        fault("1+12345", 6);
        fault("1<2<3", 3);
        fault("1<2=3", 3);
        fault("1=2>3", 3);
        fault("(1<2<3)", 4);
        fault("1<2&1<2<3", 7);
        fault("1a", 1);
        fault("a1", 1);
        fault("aa", 1);
        fault("a!", 1);
        fault("a(", 1);
        fault("(1", 2);
        fault("(1))", 3);
        fault(")", 0);
        fault("()", 1);
        fault("(", 1);
        fault("!", 1);
        fault("!)", 1);
        fault("1|", 2);
        fault("1|&", 2);
        fault("1&|1", 2);
        fault("x", 0);
        fault("A", 0);
        fault("1\u0000", 1);
        fault("1\u00ff", 1);
        fault("1^1", 1);
        fault("1==1", 2);
        fault("1!=1", 1);
        fault("1+".repeat(30), 60);
        fault("(" + "1+".repeat(29) + "1", 60);
        fault("1+".repeat(29) + "1!", 59);
        faultsBehindOldBytes();
    }

    /** What THE TAPE held ahead is no part of a TEXT. */
    private static void faultsBehindOldBytes() {
        ShodBackwards x = new ShodBackwards();
        Due.is("11 enclosed", Due.text(x, 1, "(1)"), 1);
        Due.is("11 not enclosed", Due.text(x, 1, "(2"), -12);
        Due.is("11 sum", Due.text(x, 1, "1+2"), 1);
        Due.is("11 no sum", Due.text(x, 1, "4+"), -12);
        Due.is("11 long number", Due.text(x, 1, "1234"), 1);
        Due.is("11 short number", Due.text(x, 1, "5"), 1);
        Due.is("11 short number", x.cellIs(0, 4), 5);
    }

    private static void depths() {
        worth("!!!!!1", 0);
        fault("!!!!!!1", 5);
        fault("((((((1))))))", 5);
        fault("(((((!1)))))", 5);
        fault("!!!!!(1)", 5);
        fault("!(!(!(1)))", 5);
        fault("!!(!!(1))", 5);
        worth("!(!(!1))", 0);
        worth("!(!(!1+!1))", 0);
        worth("!!!!!1+!!!!!0", 1);
        worth("(((((1)))))+(((((2)))))", 3);
        worth("!!!!(1)+(1)", 2);
        worth("(!!!!0)+((((!0))))", 1);
        fault("(((((1)))))+((((((2))))))", 17);
        worth("(((((1)+1)+1)+1)+1)+1", 6);
    }

    private static void names() {
        ShodBackwards x = new ShodBackwards();
        for (String name : new String[] {"w", "s", "m", "g"}) {
            Due.is("11 shoes have " + name, Due.text(x, 0, name), 1);
            Due.is("11 doubt has no " + name, Due.text(x, 1, name), -10);
        }
        for (String name : new String[] {"n", "d", "a"}) {
            Due.is("11 doubt has " + name, Due.text(x, 1, name), 1);
            Due.is("11 shoes have no " + name, Due.text(x, 0, name), -10);
        }
        ShodBackwards y = new ShodBackwards();
        y.rider(3, 0);
        y.rider(0, 0);
        y.set(0, 3, 55);
        Due.ride(y, 0, "e");
        Due.ride(y, 1, "se");
        y.hours(3);
        Due.text(y, 1, "n*16+d");
        Due.is("11 n, d", y.cellIs(0, 4), 38);
        Due.is("11 n, d of one", y.cellIs(6, 4), 17);
        Due.text(y, 1, "a");
        Due.is("11 a", y.cellIs(0, 4), 3);
        Due.is("11 a of a later one", y.cellIs(6, 4), 2);
        ShodBackwards z = new ShodBackwards();
        z.rider(69, 0);
        z.ground(2, 1);
        Due.ride(z, 0, "eees");
        Due.text(z, 0, "w+1");
        z.hours(1);
        Due.is("11 w", z.print(0, 1), 2);
        Due.text(z, 0, "s+2");
        z.hours(1);
        Due.is("11 s", z.print(1, 1), 3);
        Due.text(z, 0, "g+2");
        z.hours(1);
        Due.is("11 g", z.print(2, 1), 3);
        Due.text(z, 0, "m+1");
        z.hours(1);
        Due.is("11 m", z.print(3, 1), 2);
    }

    private static void doubtIsHeld() {
        worth("100", 99);
        worth("9999", 99);
        worth("0-1", 0);
        worth("0-9999*9999", 0);
        worth("98+1", 99);
    }

    private static void untell() {
        ShodBackwards x = new ShodBackwards();
        Due.text(x, 0, "1");
        Due.text(x, 1, "2");
        for (int use : new int[] {Integer.MIN_VALUE, -1, 2, Integer.MAX_VALUE}) {
            Due.is("12 use " + use, x.untell(use), Due.BEYOND);
        }
        Due.is("12 shoes", x.untell(0), 1);
        Due.is("12 no shoes", x.untell(0), 0);
        Due.is("12 doubt stands", x.cellIs(0, 4), 2);
        Due.is("12 doubt", x.untell(1), 1);
        Due.is("12 doubt is a again", x.cellIs(0, 4), 99);
        x.rider(62, 0);
        x.way(0, 1);
        x.hours(1);
        Due.is("12 shoes are w+m again", x.print(0, 1), 3);
    }
}
