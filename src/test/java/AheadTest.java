/** Promises 19 to 25: what would be. */
public final class AheadTest {
    private static final int[] FAR_OFF = {Integer.MIN_VALUE, -1, Integer.MAX_VALUE};

    public static void main(String[] args) {
        then();
        thenCell();
        aheadChangesNothing();
        loads();
        kinds();
        kindsOfFadedPrints();
        leastFound();
        leastFoundByHand();
        decoy();
        rest();
        restRefuses();
        Due.end();
    }

    private static ShodBackwards threeRiders() {
        ShodBackwards x = new ShodBackwards();
        x.ground(2, 1);
        x.ground(9, 2);
        x.rider(0, 0);
        x.rider(12, 21);
        x.rider(63, 35);
        x.set(0, 3, 25);
        Due.ride(x, 0, "eeessww");
        Due.ride(x, 1, "nnnnee");
        Due.ride(x, 2, "wnwnwnwnwnwn");
        Due.text(x, 0, "w*s+m");
        Due.text(x, 1, "n*9+d-a");
        return x;
    }

    private static void then() {
        for (int n = 0; n <= 24; n++) {
            ShodBackwards x = threeRiders();
            ShodBackwards y = threeRiders();
            x.hours(2);
            y.hours(2);
            if (n > 0) {
                y.hours(n);
            }
            for (int what = 0; what < 20; what++) {
                Due.is("19 behind " + n + " what " + what, x.then(n, 2, what), y.riderIs(2, what));
                Due.is("19 behind " + n + " what " + what, x.then(n, 0, what), y.riderIs(0, what));
            }
        }
        ShodBackwards x = threeRiders();
        Due.is("19 cell by hand", x.then(4, 0, 2), 9);
        Due.is("19 prints by hand", x.then(4, 0, 7), 4);
        Due.is("19 prints by hand", x.then(7, 0, 7), 5);
        Due.is("19 n 25", x.then(25, 0, 0), Due.BEYOND);
        Due.is("19 rider 3", x.then(0, 3, 0), Due.BEYOND);
        Due.is("19 what 20", x.then(0, 0, 20), Due.BEYOND);
        for (int bad : FAR_OFF) {
            Due.is("19 n " + bad, x.then(bad, 0, 0), Due.BEYOND);
            Due.is("19 rider " + bad, x.then(0, bad, 0), Due.BEYOND);
            Due.is("19 what " + bad, x.then(0, 0, bad), Due.BEYOND);
        }
    }

    private static void thenCell() {
        for (int n = 0; n <= 24; n++) {
            ShodBackwards x = threeRiders();
            ShodBackwards y = threeRiders();
            if (n > 0) {
                y.hours(n);
            }
            for (int cell = 0; cell < 36; cell += n < 12 ? 7 : 5) {
                for (int what = 0; what < 5; what++) {
                    Due.is("20 behind " + n + " what " + what, x.thenCell(n, cell, what), y.cellIs(cell, what));
                }
            }
        }
        ShodBackwards x = threeRiders();
        Due.is("20 by hand", x.thenCell(3, 2, 2), 1);
        Due.is("20 depth by hand", x.thenCell(3, 2, 3), 3);
        Due.is("20 doubt by hand", x.thenCell(3, 2, 4), 11);
        Due.is("20 n 25", x.thenCell(25, 0, 0), Due.BEYOND);
        Due.is("20 cell 36", x.thenCell(0, 36, 0), Due.BEYOND);
        Due.is("20 what 5", x.thenCell(0, 0, 5), Due.BEYOND);
        for (int bad : FAR_OFF) {
            Due.is("20 n " + bad, x.thenCell(bad, 0, 0), Due.BEYOND);
            Due.is("20 cell " + bad, x.thenCell(0, bad, 0), Due.BEYOND);
            Due.is("20 what " + bad, x.thenCell(0, 0, bad), Due.BEYOND);
        }
    }

    private static void aheadChangesNothing() {
        ShodBackwards x = threeRiders();
        x.hours(3);
        int prints = x.count(3);
        x.then(24, 1, 2);
        x.thenCell(24, 1, 1);
        x.leastFound(1, 12);
        x.decoy(2, 12, 35);
        x.kinds(1, 21, 0);
        x.tell(4);
        x.check();
        Due.is("19 hour", x.count(1), 3);
        Due.is("19 prints", x.count(3), prints);
        Due.is("19 z", x.count(7), 1);
        Due.is("19 kind", x.riderIs(1, 0), 1);
        Due.is("19 cell", x.riderIs(1, 2), 3);
        Due.is("19 step", x.riderIs(2, 5), 3);
    }

    private static void loads() {
        Due.is("21 rider", load(10, 7, 0), 90);
        Due.is("21 rider", load(10, 7, 1), 99);
        Due.is("21 rider none", load(11, 0, 0), Due.NONE);
        Due.is("21 rider none", load(0, 0, 1), Due.NONE);
        Due.is("21 turned", load(3, 19, 0), 20);
        Due.is("21 turned", load(3, 19, 1), 29);
        Due.is("21 lame", load(5, 24, 0), 0);
        Due.is("21 lame", load(5, 24, 1), 9);
        Due.is("21 lame none", load(4, 24, 0), Due.NONE);
        Due.is("21 walker", load(0, 30, 0), 0);
        Due.is("21 walker", load(0, 39, 1), 99);
        Due.is("21 walker none", load(1, 30, 0), Due.NONE);
        Due.is("21 doubled", load(20, 40, 0), 90);
        Due.is("21 doubled none", load(21, 40, 0), Due.NONE);
        Due.is("21 doubled odd", load(7, 40, 0), Due.NONE);
        Due.is("21 sledge", load(0, 50, 0), 0);
        Due.is("21 sledge", load(0, 50, 1), 9);
        Due.is("21 sledge two rows", load(1, 50, 0), 10);
        Due.is("21 sledge two rows", load(1, 50, 1), 29);
        Due.is("21 sledge with m", load(9, 59, 0), 80);
        Due.is("21 sledge with m", load(9, 59, 1), 99);
        ShodBackwards x = new ShodBackwards();
        int[][] bad = {{-1, 0, 0}, {100, 0, 0}, {1, -1, 0}, {1, 60, 0}, {1, 69, 0}, {1, 0, -1}, {1, 0, 2},
            {Integer.MIN_VALUE, 0, 0}, {1, Integer.MAX_VALUE, 0}};
        for (int[] b : bad) {
            Due.is("21 beyond", x.loads(b[0], b[1], b[2]), Due.BEYOND);
        }
        Due.is("21 depth 99", x.loads(99, 0, 0), Due.NONE);
        Due.is("21 beyond ahead of none", x.loads(99, 0, 2), Due.BEYOND);
    }

    private static int load(int depth, int km, int what) {
        return new ShodBackwards().loads(depth, km, what);
    }

    private static void kinds() {
        ShodBackwards x = new ShodBackwards();
        x.hours(5);
        x.rider(0, 14);
        x.rider(12, 14);
        Due.ride(x, 1, "enws");
        Due.is("22 nothing shown yet", x.kinds(1, 14, 5), 63);
        Due.is("22 begun earlier", x.kinds(1, 14, 4), 8);
        x.hours(2);
        Due.is("22 turned", x.kinds(1, 14, 5), 2);
        Due.is("22 another cell", x.kinds(1, 15, 5), 0);
        Due.is("22 an hour earlier", x.kinds(1, 14, 4), 0);
        Due.is("22 an hour later", x.kinds(1, 14, 6), 0);
        x.set(1, 3, 10);
        Due.is("22 another load", x.kinds(1, 14, 5), 0);
        x.set(1, 3, 9);
        Due.is("22 a load alike", x.kinds(1, 14, 5), 2);
        x.set(1, 0, 3);
        Due.is("22 its own kind is nothing to it", x.kinds(1, 14, 5), 2);
        x.set(1, 2, 0);
        x.set(1, 5, 0);
        Due.is("22 nor cell, nor step", x.kinds(1, 14, 5), 2);
        Due.is("22 one without prints", x.kinds(0, 14, 5), 63);
        x.set(1, 5, 3);
        x.way(1, 1);
        Due.is("22 ways to come are nothing to it", x.kinds(1, 14, 5), 2);
        x.ground(14, 3);
        Due.is("22 a stream keeps none", x.kinds(1, 14, 5), 2);
        x.ground(14, 0);
        Due.is("22 ground as now", x.kinds(1, 14, 5), 0);
        Due.is("22 begun only now", x.kinds(1, 14, 7), 0);
        int[][] bad = {{2, 0, 0}, {-1, 0, 0}, {0, -1, 0}, {0, 36, 0}, {0, 0, -1}, {0, 0, 8},
            {0, 0, Integer.MAX_VALUE}, {Integer.MIN_VALUE, 0, 0}};
        for (int[] b : bad) {
            Due.is("22 beyond", x.kinds(b[0], b[1], b[2]), Due.BEYOND);
        }
        oneOfTwoKinds();
        lameAndSledge();
        throughTheFirstCell();
    }

    /** With no LOAD and m 0 the LAME one sinks as the RIDER does; only step 0 tells them apart. */
    private static void oneOfTwoKinds() {
        ShodBackwards x = new ShodBackwards();
        x.ground(0, 3);
        x.rider(0, 0);
        Due.ride(x, 0, "ees");
        x.hours(3);
        Due.is("22 rider, lame", x.kinds(0, 0, 0), 5);
        x.set(0, 1, 1);
        Due.is("22 another m", x.kinds(0, 0, 0), 1);
    }

    private static void lameAndSledge() {
        ShodBackwards x = new ShodBackwards();
        x.rider(55, 0);
        Due.ride(x, 0, "ss");
        x.hours(2);
        Due.is("22 sledge", x.kinds(0, 0, 0), 32);
        x.rider(23, 0);
        Due.ride(x, 1, "sww");
        x.hours(3);
        Due.is("22 lame, west at the border", x.kinds(1, 0, 2), 4);
        Due.is("22 bits of both", x.kinds(1, 0, 2) | x.kinds(0, 0, 0), 36);
    }

    private static void throughTheFirstCell() {
        ShodBackwards x = new ShodBackwards();
        x.rider(4, 7);
        Due.ride(x, 0, "nwws");
        x.hours(4);
        Due.is("22 by CELL 0", x.kinds(0, 7, 0), 1);
    }

    private static void kindsOfFadedPrints() {
        ShodBackwards x = new ShodBackwards();
        x.ground(0, 2);
        x.rider(1, 0);
        x.set(0, 3, 40);
        Due.ride(x, 0, "ee");
        x.hours(2);
        Due.is("22 the first has gone", x.count(3), 1);
        Due.is("22 rider", x.kinds(0, 0, 0), 1);
        x.hours(9);
        Due.is("22 all have gone", x.count(3), 0);
        Due.is("22 any", x.kinds(0, 0, 0), 63);
        Due.is("22 not so late", x.kinds(0, 0, 2), 8);
        x.frost(1);
        Due.is("22 frost as now", x.kinds(0, 0, 0), 8);
    }

    private static void leastFound() {
        ShodBackwards x = new ShodBackwards();
        x.rider(0, 0);
        Due.is("23 n 0", x.leastFound(0, 0), Due.BEYOND);
        Due.is("23 n 13", x.leastFound(0, 13), Due.BEYOND);
        Due.is("23 rider 1", x.leastFound(1, 1), Due.BEYOND);
        for (int bad : FAR_OFF) {
            Due.is("23 n " + bad, x.leastFound(0, bad), Due.BEYOND);
            Due.is("23 rider " + bad, x.leastFound(bad, 1), Due.BEYOND);
        }
        Due.is("23 of several the least", x.leastFound(0, 12), 0);
        // By TURNED it ends in 13, 3 off from 16; by TOLD it would end in 1, where the other one leads from 8.
        x.set(0, 2, 14);
        x.set(0, 1, 9);
        Due.ride(x, 0, "ee");
        Due.text(x, 0, "0");
        x.rider(0, 8);
        Due.ride(x, 1, "nw");
        Due.is("23 told ones aren't tried", x.leastFound(0, 2), 1);
    }

    private static void leastFoundByHand() {
        ShodBackwards x = new ShodBackwards();
        x.rider(60, 14);
        Due.ride(x, 0, "eee");
        // RIDER is found; TURNED leads to 13, 4 off; LAME by its first step, too; WALKER is 3 off.
        Due.is("23 turned", x.leastFound(0, 3), 1);
        Due.is("23 turned by one hour", x.leastFound(0, 1), 1);
        x.set(0, 2, 12);
        // At the border TURNED leads nowhere: as far as WALKER, and less in number.
        Due.is("23 at the border", x.leastFound(0, 3), 1);
        x.halt(0);
        x.set(0, 2, 14);
        Due.ride(x, 0, "see");
        x.ground(14, 3);
        // No PRINT in the first CELL by any KIND: all are alike.
        Due.is("23 a stream", x.leastFound(0, 3), 0);
        x.ground(14, 0);
        x.rider(0, 14);
        Due.ride(x, 1, "wsssss");
        // The other one's PRINT is the latest in 14 whatever the first does: 13, 19, 25, 31.
        Due.is("23 others ride", x.leastFound(0, 3), 0);
        Due.is("23 kind stays", x.riderIs(0, 0), 6);
        ShodBackwards y = new ShodBackwards();
        y.rider(0, 14);
        Due.ride(y, 0, "nsn");
        y.hours(1);
        // All but TURNED show the way to 14 and back, or none: 1 off from 14; TURNED leads to 2.
        Due.is("23 from where the rider is now", y.leastFound(0, 1), 1);
    }

    private static void decoy() {
        ShodBackwards x = new ShodBackwards();
        x.rider(10, 14);
        Due.ride(x, 0, "ee");
        x.rider(0, 14);
        Due.ride(x, 1, "");
        Due.is("24 to the west", x.decoy(0, 2, 14), 1);
        Due.is("24 from 15 back to 13", x.decoy(0, 2, 15), 2);
        Due.is("24 by one hour", x.decoy(0, 1, 14), 1);
        Due.is("24 nobody was there", x.decoy(0, 2, 20), 0);
        Due.is("24 one who stays", x.decoy(1, 2, 14), 0);
        x.hours(2);
        Due.is("24 what lies there leads both", x.decoy(0, 5, 14), 0);
        ShodBackwards y = new ShodBackwards();
        y.rider(0, 14);
        y.rider(0, 14);
        Due.ride(y, 0, "eee");
        Due.ride(y, 1, "wnn");
        Due.is("24 the greater number leads", y.decoy(0, 3, 14), 0);
        Due.is("24 away from the other one", y.decoy(1, 3, 14), 6);
        Due.is("24 step stays", y.riderIs(1, 5), 0);
        int[][] bad = {{2, 1, 0}, {-1, 1, 0}, {0, 0, 0}, {0, 13, 0}, {0, 1, -1}, {0, 1, 36},
            {Integer.MIN_VALUE, 1, 0}, {0, Integer.MAX_VALUE, 0}};
        for (int[] b : bad) {
            Due.is("24 beyond", y.decoy(b[0], b[1], b[2]), Due.BEYOND);
        }
    }

    private static void rest(int[] gains, int plain, int turned, int turnedBelow, int gain, int gainBelow) {
        ShodBackwards x = new ShodBackwards();
        Due.sheet(x, 2, 32, gains);
        int[] want = {plain, turned, turnedBelow, gain, gainBelow};
        for (int what = 0; what < 5; what++) {
            Due.is("25 what " + what, x.rest(2, what), want[what]);
        }
    }

    private static void rest() {
        int none = Due.NONE;
        rest(new int[] {0, 0, 0, 0}, 1, none, none, 0, 1);
        rest(new int[] {5, 5, 5, 5}, 1, none, none, 5, 1);
        rest(new int[] {1, 2, 3, 4}, 1, none, none, 3, 1);
        rest(new int[] {4, 3, 2, 1}, 1, none, none, 3, 1);
        rest(new int[] {-7, -2, -8, 9}, 1, none, none, -7, 1);
        rest(new int[] {1, 5, 1, 7}, 1, none, none, 1, 1);
        rest(new int[] {1, 0, 0, 1}, 0, 1, 2, 1, 2);
        rest(new int[] {0, 1, 1, 0}, 0, 1, 2, 1, 2);
        rest(new int[] {1, -1, -1, 1}, 0, 1, 2, 0, 1);
        rest(new int[] {-1, 1, 1, -1}, 0, 1, 2, 0, 1);
        rest(new int[] {3, -1, -2, 4}, 0, 2, 5, 1, 1);
        rest(new int[] {-1, 3, 4, -2}, 0, 2, 5, 1, 1);
        rest(new int[] {-3, 1, 2, -4}, 0, 2, 5, -1, 1);
        rest(new int[] {999, -999, -998, 999}, 0, 1998, 3995, 999, 3995);
        rest(new int[] {-999, 998, 997, -999}, 0, 1997, 3993, -2995, 3993);
        rest(new int[] {2, 1, 0, 3, 77}, 0, 1, 4, 3, 2);
        rest(new int[] {3, 1, 0, 3, 5000}, 0, 2, 5, 9, 5);
    }

    private static void restRefuses() {
        ShodBackwards x = new ShodBackwards();
        Due.is("25 sheet 4", x.rest(4, 0), Due.BEYOND);
        Due.is("25 sheet -1", x.rest(-1, 0), Due.BEYOND);
        Due.is("25 missing", x.rest(0, 0), Due.NONE);
        Due.is("25 what ahead of missing", x.rest(0, 5), Due.BEYOND);
        Due.is("25 what -1", x.rest(0, -1), Due.BEYOND);
        Due.sheet(x, 0, 32, 1000, 0, 0);
        Due.is("25 three", x.rest(0, 0), Due.NONE);
        Due.sheet(x, 0, 32, 0, 0, 0, 0, 1000);
        Due.is("25 the fifth is nothing to it", x.rest(0, 0), 1);
        for (int i = 0; i < 4; i++) {
            x.put(0, i, 1000);
            Due.is("25 1000", x.rest(0, 1), Due.BEYOND);
            x.put(0, i, -1000);
            Due.is("25 -1000", x.rest(0, 0), Due.BEYOND);
            x.put(0, i, Integer.MIN_VALUE);
            Due.is("25 least", x.rest(0, 4), Due.BEYOND);
            x.put(0, i, -999);
            Due.is("25 -999", x.rest(0, 0), 1);
            x.put(0, i, 0);
        }
        Due.is("25 plain has no odds", x.rest(0, 1), Due.NONE);
        Due.is("25 plain has no odds", x.rest(0, 2), Due.NONE);
        Due.sheet(x, 1, 8, 127, 128, 0, 255);
        Due.is("25 of 8 bits", x.rest(1, 0), 1);
        Due.is("25 of 8 bits", x.rest(1, 3), -1);
    }
}
