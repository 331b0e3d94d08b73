import java.util.Arrays;

/** Two objects that were made by the same calls, and whether they still answer alike. */
final class Twins {
    final ShodBackwards x;
    final ShodBackwards y;

    private Twins(ShodBackwards x, ShodBackwards y) {
        this.x = x;
        this.y = y;
    }

    static Twins busy() {
        return new Twins(makeBusy(), makeBusy());
    }

    static Twins full() {
        return new Twins(makeFull(), makeFull());
    }

    static Twins late() {
        return new Twins(makeLate(), makeLate());
    }

    /** RIDERS 0 .. 2, PRINTS, both TEXTS, an IMAGE of an HOUR ahead, a TAPE, SHEETS 0 .. 2, THE TRACE; HOUR 4. */
    static ShodBackwards makeBusy() {
        ShodBackwards x = new ShodBackwards();
        x.ground(8, 1);
        x.ground(9, 2);
        x.ground(10, 3);
        x.frost(3);
        x.rider(63, 7);
        x.rider(14, 21);
        x.rider(22, 35);
        x.set(0, 3, 45);
        x.set(2, 3, 99);
        Due.ride(x, 0, "eeses");
        Due.ride(x, 1, "nw");
        Due.ride(x, 2, "wwnn");
        Due.text(x, 0, "w+s+1");
        Due.text(x, 1, "n*9+d");
        x.tell(8);
        x.hours(2);
        x.image();
        x.hours(1);
        x.draws(1);
        x.tell(3);
        x.tell(9);
        Due.sheet(x, 0, 8, 3, 2, 1, 0, -7);
        Due.sheet(x, 1, 16, 999, -5, 6, 7);
        Due.sheet(x, 2, 32, 21, 15, 14);
        x.voice(1, 3, 5);
        Due.feed(x, "1+2");
        return x;
    }

    /** All that can be full is full: RIDERS, the RIDE of RIDER 0, THE TAPE, the numbers that wait. */
    static ShodBackwards makeFull() {
        ShodBackwards x = new ShodBackwards();
        for (int i = 0; i < 5; i++) {
            x.rider(11 * i, 7 * i);
        }
        Due.ride(x, 0, "eeesssnnnwww");
        Due.ride(x, 4, "nw");
        x.hours(2);
        for (int i = 0; i < 15; i++) {
            x.feed(0x312b312bL, 4);
        }
        for (int i = 0; i < 24; i++) {
            x.tell(i);
        }
        return x;
    }

    /** HOUR 9999, with two PRINTS. Most of the 512 calls are used up then. */
    static ShodBackwards makeLate() {
        ShodBackwards x = new ShodBackwards();
        x.rider(25, 14);
        for (int i = 0; i < 416; i++) {
            x.hours(24);
        }
        x.hours(13);
        Due.ride(x, 0, "nee");
        x.seed(99);
        x.hours(2);
        return x;
    }

    private void same(String label, String act, int... a) {
        Due.is(label + ", then " + act + " " + Arrays.toString(a), Face.call(x, act, '4', a),
            Face.call(y, act, '4', a));
    }

    /** What told() tells is alike, but that x has been refused once more with an ERROR; 0: it has not. */
    void toldApart(String label, int error) {
        for (int k = 1; k <= 6; k++) {
            Due.is(label + ", told " + k, x.told(k), y.told(k) + (error == -1000000000 - k ? 1 : 0));
        }
    }

    /** All answers are alike; those that change something come last. */
    void alike(String label) {
        moorAlike(label);
        for (int i = 0; i <= 7; i++) {
            same(label, "body", i);
        }
        sheetsAlike(label);
        same(label, "check");
        same(label, "feed", 1);
        same(label, "text", 1);
        same(label, "cellIs", 14, 4);
        same(label, "restore");
        moorAlike(label + ", restored");
        same(label, "check");
        same(label, "image");
        same(label, "untell", 0);
        same(label, "untell", 1);
    }

    /** What there is without a SHEET, an IMAGE, a TEXT: few enough calls for one that is late. */
    void moorAlike(String label) {
        for (int what = 0; what < 8; what++) {
            same(label, "count", what);
        }
        for (int rider = 0; rider < y.count(0); rider++) {
            for (int what = 0; what < 20; what += what == 13 ? 6 : 1) {
                same(label, "riderIs", rider, what);
            }
        }
        for (int i = 0; i < y.count(3); i++) {
            for (int what = 0; what < 5; what++) {
                same(label, "print", i, what);
            }
        }
        for (int cell = 7; cell < 16; cell++) {
            same(label, "cellIs", cell, 0);
        }
        same(label, "cellIs", 14, 4);
    }

    private void sheetsAlike(String label) {
        int[] bits = {8, 16, 32};
        same(label, "put", 3, 0, 0);
        for (int sheet = 0; sheet < 3; sheet++) {
            same(label, "rest", sheet, 0);
            same(label, "sheet", 3, bits[sheet], 4);
            for (int i = 0; i < 5; i++) {
                same(label, "move", sheet, i, 3, 0, 1);
                same(label, "move", 3, 0, 3, 1, 1);
                same(label, "move", 3, 0, 3, 2, 2);
                same(label, "rest", 3, 3);
            }
            same(label, "put", sheet, 5, 0);
        }
    }
}
