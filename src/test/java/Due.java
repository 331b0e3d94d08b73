/** Counts the answers that are not the due ones, and ends a test by them. */
final class Due {
    static final int BEYOND = -1000000001;
    static final int NONE = -1000000002;
    static final int STATE = -1000000003;
    static final int FULL = -1000000004;
    static final int KIND = -1000000005;
    static final int PARTED = -1000000006;

    private static int asked = 0;
    private static int wrong = 0;

    private Due() {
    }

    static void is(String call, long got, long want) {
        asked++;
        if (got != want) {
            wrong++;
            System.out.println(call + " answered " + got + ", due is " + want);
        }
    }

    static void end() {
        System.out.println(asked + " answers asked, " + wrong + " not as due");
        if (wrong != 0) {
            System.exit(1);
        }
    }

    /** Feeds a text, byte by byte. */
    static void feed(ShodBackwards x, String text) {
        for (int i = 0; i < text.length(); i++) {
            x.feed(text.charAt(i), 1);
        }
    }

    static int text(ShodBackwards x, int use, String text) {
        feed(x, text);
        return x.text(use);
    }

    /** Gives a RIDER a RIDE, told by the letters n, e, s, w. */
    static void ride(ShodBackwards x, int rider, String ways) {
        for (int i = 0; i < ways.length(); i++) {
            x.way(rider, "nesw".indexOf(ways.charAt(i)));
        }
    }

    static void sheet(ShodBackwards x, int sheet, int bits, int... numbers) {
        x.sheet(sheet, bits, numbers.length);
        for (int i = 0; i < numbers.length; i++) {
            x.put(sheet, i, numbers[i]);
        }
    }
}
