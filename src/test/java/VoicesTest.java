/** Promises 26 and 27: VOICES, THE TRACE. */
public final class VoicesTest {
    private static final int RIDES = 0;
    private static final int SHOWS = 1;
    private static final int SINKS = 2;
    private static final int PARTS = 3;

    public static void main(String[] args) {
        rider();
        turned();
        lame();
        walker();
        doubled();
        sledge();
        told();
        parted();
        wraps();
        bodies();
        refuses();
        Due.end();
    }

    /** RIDER 3 of a KIND and m; the others are there for the number. */
    private static ShodBackwards third(int km) {
        ShodBackwards x = new ShodBackwards();
        for (int i = 0; i < 3; i++) {
            x.rider(0, 0);
        }
        x.rider(km, 0);
        return x;
    }

    private static void says(int km, int voice, int v, int want, int... trace) {
        ShodBackwards x = third(km);
        Due.is("26 " + km + ", voice " + voice, x.voice(3, voice, v), want);
        Due.is("27 how many", x.count(6), trace.length);
        for (int i = 0; i < trace.length; i++) {
            Due.is("27 " + km + ", voice " + voice + ", body " + i, x.body(i), trace[i]);
        }
        Due.is("27 no more", x.body(trace.length), Due.NONE);
    }

    private static void rider() {
        says(5, RIDES, 10, 13, 10);
        says(5, SHOWS, 10, 26, 11, 10);
        says(5, SINKS, 10, 21, 12, 11, 10);
        says(5, PARTS, 11, 5, 13);
        says(1, PARTS, 11, -5, 13);
        says(5, PARTS, -11, -5, 13);
    }

    private static void turned() {
        says(15, RIDES, 10, 6, 20, 10);
        says(15, SHOWS, 10, 12, 11, 20, 10);
        says(15, SINKS, 10, 7, 12, 11, 20, 10);
        says(15, PARTS, 10, -1, 21, 13, 11, 20, 10);
    }

    private static void lame() {
        says(25, RIDES, 10, 13, 10);
        says(25, SHOWS, 10, -26, 30, 11, 10);
        says(25, SINKS, 10, -31, 12, 30, 11, 10);
        says(25, PARTS, 10, 5, 13);
    }

    private static void walker() {
        says(35, RIDES, 10, 13, 10);
        says(35, SHOWS, 10, 26, 11, 10);
        says(35, SINKS, 11, 11, 40, 12, 11, 10);
        says(35, SINKS, -11, -9, 40, 12, 11, 10);
        says(35, PARTS, 10, 5, 13);
    }

    private static void doubled() {
        says(45, RIDES, 10, 18, 50, 20, 10);
        says(45, SHOWS, 10, 36, 11, 50, 20, 10);
        says(45, SINKS, 10, 28, 51, 12, 11, 50, 20, 10);
        says(45, PARTS, 10, -13, 21, 13, 11, 50, 20, 10);
    }

    private static void sledge() {
        says(55, RIDES, 10, 13, 10);
        says(55, SHOWS, 10, -28, 60, 30, 11, 10);
        says(55, SINKS, 10, -33, 12, 60, 30, 11, 10);
        says(55, PARTS, 10, 5, 13);
    }

    private static void told() {
        says(65, RIDES, 10, 5, 70);
        says(65, SHOWS, 10, 15, 71, 11, 70);
        says(65, SINKS, 10, 10, 12, 71, 11, 70);
        says(65, PARTS, 10, 5, 13);
    }

    private static void parted() {
        for (int kind = 0; kind < 7; kind++) {
            ShodBackwards x = third(kind * 10 + 3);
            x.voice(0, RIDES, 4);
            Due.is("26 parted", x.voice(3, PARTS, 9), Due.PARTED);
            Due.is("26 told", x.told(6), 1);
            Due.is("27 an error changes nothing", x.body(0), 10);
            Due.is("27 an error changes nothing", x.count(6), 1);
            x.set(3, 1, 4);
            Due.is("26 no more", x.voice(3, PARTS, 9) == Due.PARTED ? 1 : 0, 0);
        }
    }

    private static void wraps() {
        ShodBackwards x = third(2);
        Due.is("26 rides", x.voice(3, RIDES, Integer.MAX_VALUE), Integer.MIN_VALUE + 2);
        Due.is("26 shows", x.voice(3, SHOWS, Integer.MAX_VALUE), 4);
        Due.is("26 parts by -1", x.voice(3, PARTS, Integer.MIN_VALUE), Integer.MIN_VALUE);
        Due.is("26 looks like an error", x.voice(3, RIDES, Due.BEYOND - 3), Due.BEYOND);
        Due.is("26 is none", x.told(1), 0);
    }

    private static void bodies() {
        ShodBackwards x = third(40);
        Due.is("27 none at first", x.body(0), Due.NONE);
        x.voice(3, PARTS, 1);
        Due.is("27 six", x.count(6), 6);
        x.voice(0, RIDES, 1);
        Due.is("27 the latest one alone", x.count(6), 1);
        Due.is("27 its body", x.body(0), 10);
        for (int i : new int[] {Integer.MIN_VALUE, -1, 1, 30, Integer.MAX_VALUE}) {
            Due.is("27 body " + i, x.body(i), Due.NONE);
        }
        Due.is("27 told", x.told(2), 6);
        Due.is("26 beyond", x.voice(3, 4, 1), Due.BEYOND);
        Due.is("27 stays", x.body(0), 10);
    }

    private static void refuses() {
        ShodBackwards x = third(0);
        int[] bad = {Integer.MIN_VALUE, -1, 4, Integer.MAX_VALUE};
        for (int b : bad) {
            Due.is("26 rider " + b, x.voice(b, 0, 1), Due.BEYOND);
            Due.is("26 voice " + b, x.voice(3, b, 1), Due.BEYOND);
        }
    }
}
