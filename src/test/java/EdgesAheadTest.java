/** Promises 19 to 25: a test for each sentence of the document that names an edge; the sentence stands ahead of it. */
public final class EdgesAheadTest {
    public static void main(String[] args) {
        aheadByNoneToDay();
        aheadBeyondTheLastHour();
        aheadOfFortyPrints();
        aheadNothingIsDrawn();
        loadsThatFit();
        kindsBegunNow();
        kindsInTheFirstAndLastHour();
        kindsOfHalted();
        kindsWithoutAllPrints();
        kindsOthersAway();
        kindsAtTheBorder();
        kindsOfLongRides();
        leastFoundByEach();
        leastFoundToTheEnd();
        decoyToTheEnd();
        decoyAtTheBorder();
        restOfAll();
        restAtTheEdges();
        Due.end();
    }

    /** "AHEAD by n (0 .. 24) HOURS": 0 is now. */
    private static void aheadByNoneToDay() {
        ShodBackwards x = new ShodBackwards();
        x.rider(0, 14);
        x.rider(50, 0);
        Due.ride(x, 0, "eee");
        x.hours(1);
        for (int what = 0; what < 20; what++) {
            Due.is("19 now, " + what, x.then(0, 0, what), x.riderIs(0, what));
        }
        for (int what = 0; what < 5; what++) {
            Due.is("20 now, " + what, x.thenCell(0, 14, what), x.cellIs(14, what));
        }
        int[] prints = {1, 2, 3, 3, 3, 3, 3, 3, 3, 2, 1, 0, 0};
        int[] doubts = {1, 2, 3, 4, 5, 6, 7, 8, 9, 99, 99, 99, 99};
        for (int n = 0; n <= 24; n++) {
            Due.is("19 prints of it", x.then(n, 0, 7), prints[Math.min(n, 12)]);
            Due.is("19 step", x.then(n, 0, 5), Math.min(3, 1 + n));
            Due.is("19 cell", x.then(n, 0, 2), Math.min(17, 15 + n));
            Due.is("19 one who stays", x.then(n, 1, 2), 0);
            Due.is("20 doubt", x.thenCell(n, 14, 4), doubts[Math.min(n, 12)]);
            Due.is("20 latest", x.thenCell(n, 14, 2), n < 9 ? 1 : -1);
        }
        for (int n : new int[] {-1, 25}) {
            Due.is("19 n " + n, x.then(n, 0, 0), Due.BEYOND);
            Due.is("20 n " + n, x.thenCell(n, 0, 0), Due.BEYOND);
        }
    }

    /** "as they would go by (beyond 9999, too)": for each act that looks ahead. */
    private static void aheadBeyondTheLastHour() {
        ShodBackwards x = Twins.makeLate();
        Due.is("37 hour", x.count(1), 9999);
        Due.is("13 none goes by", x.hours(1), Due.STATE);
        Due.is("19 one on", x.then(1, 0, 2), 10);
        Due.is("19 a day on", x.then(24, 0, 5), 3);
        Due.is("20 an hour since", x.thenCell(1, 9, 4), 1);
        Due.is("20 nine hours since", x.thenCell(9, 9, 4), 9);
        Due.is("20 faded", x.thenCell(10, 9, 4), 99);
        Due.sheet(x, 0, 8, 9, 10, 10);
        Due.is("32 all", x.judge(0, 0), 3);
        x.tell(3);
        x.tell(3);
        Due.is("36 so it is", x.check(), 0);
        x.set(0, 0, 1);
        // Of CELL 9, which is left in HOUR 9999, the PRINT of one who turned the shoes shows west.
        Due.is("24 to 8, and by its print to 9 again", x.decoy(0, 1, 9), 0);
        Due.is("24 from 10", x.decoy(0, 12, 10), 0);
        Due.is("23 turned", x.leastFound(0, 1), 1);
        Due.is("23 all has faded by then", x.leastFound(0, 12), 0);
        Due.is("22 in hour 9997", x.kinds(0, 14, 9997), 4);
        Due.is("22 in hour 9999", x.kinds(0, 14, 9999), 0);
        Due.is("22 in hour 10000", x.kinds(0, 14, 10000), Due.BEYOND);
        Due.is("37 hour still", x.count(1), 9999);
    }

    /** "40 PRINTS at most": AHEAD, too. */
    private static void aheadOfFortyPrints() {
        ShodBackwards x = new ShodBackwards();
        x.frost(9);
        for (int i = 0; i < 5; i++) {
            x.rider(0, 6 * i);
            Due.ride(x, i, "eeeeewwwwwee");
        }
        int[] all = {0, 5, 10, 15, 20, 25, 30, 35, 40, 40, 40, 40, 40};
        for (int n = 0; n <= 12; n++) {
            Due.is("19 of rider 0", x.then(n, 0, 7), Math.min(8, n));
            Due.is("20 first cell", x.thenCell(n, 0, 1), n < 1 ? 0 : n < 9 ? 1 : n < 11 ? 0 : 1);
        }
        for (int n = 1; n <= 12; n++) {
            x.tell(all[n]);
        }
        Due.is("36 so many", x.check(), 0);
        Due.is("37 none now", x.count(3), 0);
    }

    /** "HOURS", not HOURS BY DRAWS. */
    private static void aheadNothingIsDrawn() {
        ShodBackwards x = new ShodBackwards();
        x.rider(0, 14);
        Due.ride(x, 0, "ewewewewewew");
        for (int seed = 0; seed < 40; seed++) {
            x.seed(seed);
            Due.is("19 all", x.then(9, 0, 7), 9);
            Due.is("20 all", x.thenCell(9, 14, 1), 5);
            Due.is("37 z", x.count(7), seed);
        }
    }

    /** "LOADS that a PRINT of a DEPTH fits: the least, the greatest LOAD (0 .. 99)", "NONE: no LOAD does". */
    private static void loadsThatFit() {
        for (int km = 0; km < 60; km++) {
            ShodBackwards x = new ShodBackwards();
            x.rider(km, 0);
            int[] least = new int[100];
            int[] greatest = new int[100];
            for (int depth = 0; depth < 100; depth++) {
                least[depth] = Due.NONE;
                greatest[depth] = Due.NONE;
            }
            for (int load = 0; load < 100; load++) {
                x.set(0, 3, load);
                int depth = x.riderIs(0, 6);
                least[depth] = least[depth] < 0 ? load : least[depth];
                greatest[depth] = load;
            }
            ShodBackwards y = new ShodBackwards();
            for (int depth = 0; depth < 100; depth++) {
                Due.is("21 least of " + depth + ", " + km, y.loads(depth, km, 0), least[depth]);
                Due.is("21 greatest of " + depth + ", " + km, y.loads(depth, km, 1), greatest[depth]);
            }
        }
        ShodBackwards x = new ShodBackwards();
        Due.is("21 told ones are no such kind", x.loads(1, 60, 0), Due.BEYOND);
        Due.is("21 sledge, half is cut", x.loads(0, 50, 1), 9);
        Due.is("21 all loads of a walker", x.loads(0, 39, 0), 0);
        Due.is("21 all loads of a walker", x.loads(0, 39, 1), 99);
        Due.is("21 no walker that deep", x.loads(1, 39, 1), Due.NONE);
    }

    /** "begun .. in HOUR h (0 .. HOUR now)": begun now nothing would have been left. */
    private static void kindsBegunNow() {
        ShodBackwards x = new ShodBackwards();
        x.rider(0, 14);
        Due.ride(x, 0, "ee");
        Due.is("22 hour 0, none left", x.kinds(0, 14, 0), 63);
        Due.is("22 above", x.kinds(0, 14, 1), Due.BEYOND);
        Due.is("22 below", x.kinds(0, 14, -1), Due.BEYOND);
        x.hours(1);
        Due.is("22 begun now, one left", x.kinds(0, 14, 1), 0);
        Due.is("22 begun then", x.kinds(0, 14, 0), 1);
        Due.is("22 above", x.kinds(0, 14, 2), Due.BEYOND);
        x.hours(10);
        Due.is("22 all have faded, begun now", x.kinds(0, 14, 11), 63);
        Due.is("22 all have faded, begun so that one would be seen", x.kinds(0, 14, 1), 8);
        Due.is("22 all have faded, begun then", x.kinds(0, 14, 0), 63);
    }

    private static void kindsInTheFirstAndLastHour() {
        ShodBackwards x = new ShodBackwards();
        x.hours(24);
        x.rider(10, 14);
        Due.ride(x, 0, "es");
        x.hours(2);
        for (int h = 0; h <= 26; h++) {
            Due.is("22 begun in " + h, x.kinds(0, 14, h), h == 24 ? 2 : 0);
        }
        for (int cell = 0; cell < 36; cell++) {
            Due.is("22 begun in cell " + cell, x.kinds(0, cell, 24), cell == 14 ? 2 : 0);
        }
    }

    /** "the RIDE as it is": emptied, no KIND leaves any; with the PRINTS gone every KIND fits. */
    private static void kindsOfHalted() {
        ShodBackwards x = new ShodBackwards();
        x.rider(0, 14);
        Due.ride(x, 0, "e");
        x.hours(1);
        x.halt(0);
        Due.is("22 no ride, a print", x.kinds(0, 14, 0), 0);
        x.way(0, 1);
        Due.is("22 the ride again", x.kinds(0, 14, 0), 1);
        x.way(0, 1);
        Due.is("22 the next step isn't over", x.kinds(0, 14, 0), 1);
        x.set(0, 5, 0);
        Due.is("22 the step is nothing to it", x.kinds(0, 14, 0), 1);
        x.halt(0);
        x.hours(8);
        Due.is("22 still seen", x.kinds(0, 14, 0), 0);
        x.hours(1);
        Due.is("22 no ride, no print", x.kinds(0, 14, 0), 63);
    }

    /** "all PRINTS of that RIDER that are SEEN now, and no others": some were trodden, or went for the 41st. */
    private static void kindsWithoutAllPrints() {
        ShodBackwards x = new ShodBackwards();
        x.frost(9);
        for (int i = 0; i < 5; i++) {
            x.rider(0, 6 * i);
            Due.ride(x, i, "ewewewew");
        }
        Due.ride(x, 4, "e");
        x.hours(8);
        for (int i = 0; i < 5; i++) {
            Due.is("22 all forty", x.kinds(i, 6 * i, 0), 1);
        }
        x.hours(1);
        for (int i = 0; i < 5; i++) {
            Due.is("22 rider 0 has lost one", x.kinds(i, 6 * i, 0), i == 0 ? 0 : 1);
        }
        ShodBackwards y = new ShodBackwards();
        y.rider(0, 14);
        y.rider(0, 14);
        Due.ride(y, 0, "ee");
        Due.ride(y, 1, "ss");
        y.hours(2);
        Due.is("22 both", y.kinds(0, 14, 0), 1);
        int seed = 0;
        while (((seed * 1103515245 + 12345) >>> 8) % 36 != 15) {
            seed++;
        }
        y.seed(seed);
        y.draws(1);
        Due.is("22 trodden", y.kinds(0, 14, 0), 0);
        Due.is("22 not trodden", y.kinds(1, 14, 0), 1);
        y.hours(7);
        Due.is("22 the first has faded, by any but a walker the second is missed", y.kinds(0, 14, 0), 8);
        y.hours(1);
        Due.is("22 both would have faded", y.kinds(0, 14, 0), 63);
    }

    /** "all other RIDERS away": they leave PRINTS in the same CELLS and HOURS. */
    private static void kindsOthersAway() {
        ShodBackwards x = new ShodBackwards();
        for (int kind = 0; kind < 5; kind++) {
            x.rider(10 * kind + 1, 14);
            Due.ride(x, kind, "eese");
        }
        x.hours(4);
        int[] fits = {1, 2, 4, 8, 16};
        for (int i = 0; i < 5; i++) {
            Due.is("22 rider " + i, x.kinds(i, 14, 0), fits[i]);
        }
    }

    /** A step at the border is over in the RIDE that would have been, too. */
    private static void kindsAtTheBorder() {
        ShodBackwards x = new ShodBackwards();
        x.rider(1, 5);
        Due.ride(x, 0, "enws");
        x.hours(4);
        Due.is("22 two prints", x.count(3), 2);
        Due.is("22 rider", x.kinds(0, 5, 0), 1);
        Due.is("22 from elsewhere", x.kinds(0, 11, 0), 0);
        ShodBackwards y = new ShodBackwards();
        y.rider(21, 0);
        Due.ride(y, 0, "nwnw");
        y.hours(4);
        Due.is("22 never left", y.kinds(0, 0, 0), 63);
        Due.is("22 would have left", y.kinds(0, 14, 0), 8);
    }

    /** A RIDE of 12 WAYS that was ridden out long ago. */
    private static void kindsOfLongRides() {
        ShodBackwards x = new ShodBackwards();
        x.frost(9);
        x.rider(54, 14);
        Due.ride(x, 0, "eeesssnnnwww");
        x.hours(12);
        Due.is("22 all twelve", x.count(3), 12);
        Due.is("22 sledge", x.kinds(0, 14, 0), 32);
        x.hours(6);
        Due.is("22 all twelve to the last hour", x.count(3), 12);
        Due.is("22 sledge", x.kinds(0, 14, 0), 32);
        x.hours(11);
        Due.is("22 one is left", x.count(3), 1);
        Due.is("22 sledge", x.kinds(0, 14, 0), 32);
        Due.is("22 an hour later, two would be", x.kinds(0, 14, 1), 0);
        x.hours(1);
        Due.is("22 none is left", x.kinds(0, 14, 0), 63);
        Due.is("22 an hour later, one would be", x.kinds(0, 14, 1), 8);
    }

    private static void least(int cell, String ride, int ridden, int n, int want) {
        for (int kind = 0; kind < 7; kind++) {
            ShodBackwards x = new ShodBackwards();
            x.rider(0, cell);
            Due.ride(x, 0, ride);
            if (ridden > 0) {
                x.hours(ridden);
            }
            x.set(0, 0, kind);
            Due.is("23 from " + cell + " by " + ride, x.leastFound(0, n), want);
            Due.is("23 the kind stays", x.riderIs(0, 0), kind);
        }
    }

    /** "that KIND by which FAR .. is greatest; of several the least": each KIND once, whatever the RIDER's own is. */
    private static void leastFoundByEach() {
        // Over the border nobody goes, no KIND leaves a PRINT.
        least(0, "nnww", 0, 4, 0);
        least(0, "", 0, 12, 0);
        // Shoes turned at the first step lead south, 2 off; of four KINDS the least.
        least(14, "n", 0, 1, 1);
        // All but TURNED lead to 14 and back; there from 14 south, by a PRINT that only limps at step 4: 20, 2 off.
        least(14, "nssnn", 1, 4, 2);
        // Turned shoes lead one nearer, to 8, than no PRINT does.
        least(14, "senn", 0, 4, 3);
        // From 6, left at step 2, DOUBLED alone leads south.
        least(0, "nsn", 0, 3, 4);
        // SLEDGE shows west in 14 and in 13: 12, 2 off.
        least(14, "we", 0, 2, 5);
    }

    /** "by n (1 .. 12)"; "from the CELL where that RIDER is now, 40 steps". */
    private static void leastFoundToTheEnd() {
        ShodBackwards x = new ShodBackwards();
        x.frost(9);
        x.rider(60, 0);
        Due.ride(x, 0, "eeeeessssswe");
        for (int n = 1; n <= 12; n++) {
            // Turned shoes lead over the border: one stays where the RIDER was.
            Due.is("23 by " + n, x.leastFound(0, n), 1);
        }
        Due.is("23 by 0", x.leastFound(0, 0), Due.BEYOND);
        Due.is("23 by 13", x.leastFound(0, 13), Due.BEYOND);
        ShodBackwards y = new ShodBackwards();
        y.rider(0, 14);
        y.rider(60, 15);
        Due.ride(y, 0, "e");
        Due.is("23 the other's print leads to it", y.leastFound(1, 12), 0);
        y.ground(14, 3);
        Due.is("23 no print at all", y.leastFound(0, 1), 0);
    }

    /** "DECOY of a RIDER by n (1 .. 12)", "40 steps", "with that one staying (no step)". */
    private static void decoyToTheEnd() {
        ShodBackwards x = new ShodBackwards();
        x.frost(9);
        x.rider(0, 0);
        Due.ride(x, 0, "eeeeesssssww");
        int[] far = {1, 2, 3, 4, 5, 6, 7, 8, 9, 10, 9, 8};
        for (int n = 1; n <= 12; n++) {
            Due.is("24 by " + n, x.decoy(0, n, 0), far[n - 1]);
        }
        Due.is("24 by 0", x.decoy(0, 0, 0), Due.BEYOND);
        Due.is("24 by 13", x.decoy(0, 13, 0), Due.BEYOND);
        Due.is("24 step stays", x.riderIs(0, 5), 0);
        Due.is("24 no print comes", x.count(3), 0);
        x.halt(0);
        Due.is("24 empty ride", x.decoy(0, 12, 0), 0);
        Due.ride(x, 0, "eww");
        // Round 0 and 1 for 40 steps: where it began.
        Due.is("24 round", x.decoy(0, 2, 0), 0);
        Due.is("24 round from 1", x.decoy(0, 2, 1), 0);
        x.set(0, 5, 3);
        Due.is("24 at the end", x.decoy(0, 12, 0), 0);
    }

    private static void decoyAtTheBorder() {
        ShodBackwards x = new ShodBackwards();
        x.rider(10, 5);
        Due.ride(x, 0, "ew");
        Due.is("24 at the border no print", x.decoy(0, 1, 5), 0);
        Due.is("24 its print shows over the border", x.decoy(0, 2, 5), 0);
        x.set(0, 0, 0);
        Due.is("24 by a true one", x.decoy(0, 2, 5), 1);
        x.set(0, 0, 3);
        Due.is("24 by a walker", x.decoy(0, 2, 5), 0);
        ShodBackwards y = new ShodBackwards();
        y.rider(0, 0);
        y.rider(0, 0);
        Due.ride(y, 0, "eeeee");
        Due.ride(y, 1, "sssss");
        Due.is("24 corners apart", y.decoy(1, 5, 0), 10);
    }

    private static int divisor(int a, int b) {
        return b == 0 ? a : divisor(b, a % b);
    }

    private static void restIsRight(int... g) {
        ShodBackwards x = new ShodBackwards();
        Due.sheet(x, 3, 16, g);
        String label = "25 " + g[0] + " " + g[1] + " " + g[2] + " " + g[3];
        int rows = Math.max(Math.min(g[0], g[1]), Math.min(g[2], g[3]));
        int columns = Math.min(Math.max(g[0], g[2]), Math.max(g[1], g[3]));
        int above = x.rest(3, 1);
        int below = x.rest(3, 2);
        int gain = x.rest(3, 3);
        int by = x.rest(3, 4);
        Due.is(label + " plain", x.rest(3, 0), rows == columns ? 1 : 0);
        if (rows == columns) {
            Due.is(label, above, Due.NONE);
            Due.is(label, below, Due.NONE);
            Due.is(label, gain, rows);
            Due.is(label, by, 1);
            return;
        }
        Due.is(label + " odds", above > 0 && above < below ? 1 : 0, 1);
        Due.is(label + " lowest terms", divisor(above, below), 1);
        Due.is(label + " above 0", by > 0 ? 1 : 0, 1);
        Due.is(label + " lowest terms", divisor(Math.abs(gain), by), 1);
        // At rest it is all the same whether one believes.
        long believed = (long) (below - above) * g[0] + (long) above * g[2];
        long doubted = (long) (below - above) * g[1] + (long) above * g[3];
        Due.is(label + " all the same", believed, doubted);
        Due.is(label + " gained", believed * by, (long) gain * below);
    }

    /** "if the greatest of the rows' least ones is the least of the columns' greatest ones", "fractions in lowest terms". */
    private static void restOfAll() {
        for (int i = 0; i < 625; i++) {
            restIsRight(i % 5 - 2, i / 5 % 5 - 2, i / 25 % 5 - 2, i / 125 - 2);
        }
        int[] ends = {-999, -998, 0, 998, 999};
        for (int i = 0; i < 625; i++) {
            restIsRight(ends[i % 5], ends[i / 5 % 5], ends[i / 25 % 5], ends[i / 125]);
        }
    }

    /** "-999 .. 999", "below above 0; 0 is 0 by 1", "it is missing, or has less than four numbers". */
    private static void restAtTheEdges() {
        ShodBackwards x = new ShodBackwards();
        for (int n = 0; n < 4; n++) {
            x.sheet(0, 8, n);
            for (int what = 0; what < 5; what++) {
                Due.is("25 of " + n, x.rest(0, what), Due.NONE);
            }
        }
        x.sheet(0, 8, 4);
        Due.is("25 of four", x.rest(0, 0), 1);
        Due.is("25 0", x.rest(0, 3), 0);
        Due.is("25 by 1", x.rest(0, 4), 1);
        Due.sheet(x, 0, 16, -6, 6, 6, -6);
        Due.is("25 not plain", x.rest(0, 0), 0);
        Due.is("25 odds", x.rest(0, 1), 1);
        Due.is("25 odds by", x.rest(0, 2), 2);
        Due.is("25 0", x.rest(0, 3), 0);
        Due.is("25 by 1", x.rest(0, 4), 1);
        Due.sheet(x, 1, 16, -999, 999, 999, -999);
        Due.is("25 the edges", x.rest(1, 1), 1);
        for (int i = 0; i < 4; i++) {
            for (int bad : new int[] {-1000, 1000, -32768, 32767}) {
                Due.sheet(x, 1, 16, -999, 999, 999, -999);
                x.put(1, i, bad);
                Due.is("25 " + bad, x.rest(1, 0), Due.BEYOND);
            }
        }
    }
}
