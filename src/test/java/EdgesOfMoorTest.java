/** Promises 1 to 9: a test for each sentence of the document that names an edge; the sentence stands ahead of it. */
public final class EdgesOfMoorTest {
    public static void main(String[] args) {
        newObjectIsItsOwn();
        groundAsItIsNow();
        groundToTheHour();
        groundElsewhere();
        frostAsItIsNow();
        frostNeverOnRockOrStream();
        ridersAtMostFive();
        mAndKindApart();
        emptyRide();
        fullRide();
        depths();
        printsOfOne();
        asAnother();
        setOneThing();
        setStep();
        setIsNoRide();
        oldPrintsStay();
        wayBehindTheEnd();
        haltEmpties();
        Due.end();
    }

    /** "All as at first; no RIDERS, PRINTS": whatever other objects have been through. */
    private static void newObjectIsItsOwn() {
        Twins.makeBusy();
        Twins.makeFull();
        ShodBackwards x = new ShodBackwards();
        for (int what = 0; what < 8; what++) {
            Due.is("1 count " + what, x.count(what), what == 7 ? 1 : 0);
        }
        for (int cell = 0; cell < 36; cell++) {
            Due.is("1 peat", x.cellIs(cell, 0), 0);
            Due.is("1 no doubt", x.cellIs(cell, 4), 99);
        }
        Due.is("1 no rider", x.then(0, 0, 0), Due.BEYOND);
        Due.is("1 no print", x.print(0, 0), Due.BEYOND);
        Due.is("1 no body", x.body(0), Due.NONE);
        Due.is("1 no sheet", x.move(0, 0, 1, 0, 0), Due.NONE);
        Due.is("1 no image", x.restore(), Due.NONE);
        Due.is("1 no number waits", x.check(), 0);
        Due.is("1 the tape is empty", x.text(0), -10);
        Due.is("1 first image", x.image(), 1);
        int[] told = {2, 3, 0, 0, 0, 0};
        for (int k = 1; k <= 6; k++) {
            Due.is("1 told " + k, x.told(k), told[k - 1]);
        }
    }

    /** A PRINT in CELL 0, left in HOUR 0, on a GROUND and by a FROST; so many HOURS have gone by. */
    private static ShodBackwards onePrint(int soil, int frost, int hours) {
        ShodBackwards x = new ShodBackwards();
        x.ground(0, soil);
        x.frost(frost);
        x.rider(0, 0);
        x.way(0, 1);
        x.hours(hours);
        return x;
    }

    /** "SEEN as long as HOUR is no more than h and KEEPS of its GROUND (as it is now)": the better GROUND keeps longer. */
    private static void groundAsItIsNow() {
        ShodBackwards x = onePrint(1, 0, 4);
        Due.is("2 seen on grass for 4", x.count(3), 1);
        Due.is("2 what it was", x.ground(0, 0), 1);
        Due.is("2 seen on peat for 9", x.hours(5), 1);
        Due.is("2 not for 10", x.hours(1), 0);
        ShodBackwards y = onePrint(2, 9, 1);
        Due.is("2 what it was", y.ground(0, 1), 2);
        Due.is("2 seen on grass for 13", y.hours(12), 1);
        Due.is("2 not for 14", y.hours(1), 0);
    }

    /** "PRINTS there that are no more SEEN are gone": by the HOUR, and they don't come back. */
    private static void groundToTheHour() {
        int[] keeps = {9, 4, 1, 0};
        for (int soil = 1; soil < 4; soil++) {
            for (int age = 1; age <= 9; age++) {
                ShodBackwards x = onePrint(0, 0, age);
                Due.is("2 was peat", x.ground(0, soil), 0);
                int seen = age <= keeps[soil] ? 1 : 0;
                Due.is("2 ground " + soil + ", age " + age, x.count(3), seen);
                Due.is("2 in the cell", x.cellIs(0, 1), seen);
                Due.is("2 was " + soil, x.ground(0, 0), soil);
                Due.is("2 doesn't come back", x.count(3), seen);
            }
        }
        ShodBackwards x = onePrint(0, 0, 9);
        Due.is("2 the same again", x.ground(0, 0), 0);
        Due.is("2 stays", x.count(3), 1);
    }

    /** "GROUND of a CELL": the others, and their PRINTS, stay as they are. */
    private static void groundElsewhere() {
        ShodBackwards x = new ShodBackwards();
        x.rider(0, 14);
        Due.ride(x, 0, "eew");
        x.hours(3);
        for (int cell = 0; cell < 36; cell++) {
            if (cell < 14 || cell > 16) {
                x.ground(cell, 3);
            }
        }
        Due.is("2 none has gone", x.count(3), 3);
        x.ground(15, 3);
        Due.is("2 that one", x.count(3), 2);
        Due.is("2 ahead of it", x.print(0, 0), 14);
        Due.is("2 behind it", x.print(1, 0), 16);
        Due.is("2 peat stays", x.cellIs(16, 0), 0);
    }

    /** "FROST (0 .. 9; 0 at first) more on PEAT and GRASS", "(likewise)". */
    private static void frostAsItIsNow() {
        int[] keeps = {9, 4};
        for (int soil = 0; soil < 2; soil++) {
            ShodBackwards x = onePrint(soil, 0, keeps[soil]);
            Due.is("3 0 at first", x.frost(9), 0);
            Due.is("3 to the greatest", x.hours(9), 1);
            Due.is("3 was 9", x.frost(9), 9);
            Due.is("3 the same again", x.count(3), 1);
            Due.is("3 one less", x.frost(8), 9);
            Due.is("3 is gone", x.count(3), 0);
            x.frost(9);
            Due.is("3 doesn't come back", x.count(3), 0);
            for (int frost = 0; frost <= 9; frost++) {
                ShodBackwards y = onePrint(soil, 9, keeps[soil] + frost);
                y.frost(frost);
                Due.is("3 just seen by " + frost, y.count(3), 1);
                ShodBackwards z = onePrint(soil, 9, Math.min(18, keeps[soil] + frost + 1));
                z.frost(frost);
                Due.is("3 just gone by " + frost, z.count(3), frost == 9 && soil == 0 ? 1 : 0);
            }
        }
    }

    private static void frostNeverOnRockOrStream() {
        ShodBackwards x = onePrint(2, 9, 1);
        Due.is("3 rock for 1", x.count(3), 1);
        x.frost(0);
        Due.is("3 no thaw on rock", x.count(3), 1);
        x.frost(9);
        Due.is("3 rock not for 2", x.hours(1), 0);
        Due.is("3 a stream keeps none", onePrint(3, 9, 1).count(3), 0);
        ShodBackwards y = onePrint(0, 9, 1);
        y.ground(0, 3);
        Due.is("3 nor what was there", y.count(3), 0);
    }

    /** "RIDERS 0, 1, .. (at most 5)", "BEYOND. FULL.": one that was refused has no number. */
    private static void ridersAtMostFive() {
        ShodBackwards x = new ShodBackwards();
        for (int i = 0; i < 5; i++) {
            Due.is("4 refused", x.rider(70, 0), Due.BEYOND);
            Due.is("4 not there yet", x.riderIs(i, 0), Due.BEYOND);
            Due.is("4 the number", x.rider(i, i), i);
            Due.is("4 is there", x.riderIs(i, 1), i);
        }
        for (int i = 0; i < 3; i++) {
            Due.is("4 full", x.rider(0, 0), Due.FULL);
        }
        Due.is("4 no sixth", x.riderIs(5, 0), Due.BEYOND);
        Due.is("4 five", x.count(0), 5);
        Due.is("4 told", x.told(4), 3);
    }

    /** "km: 10 times the KIND, and m": at 0, 9, 10, 59, 60, 69. */
    private static void mAndKindApart() {
        int[][] all = {{0, 0, 0}, {9, 0, 9}, {10, 1, 0}, {59, 5, 9}, {60, 6, 0}, {69, 6, 9}};
        for (int[] one : all) {
            ShodBackwards x = new ShodBackwards();
            Due.is("4 first", x.rider(one[0], 35), 0);
            Due.is("4 kind of " + one[0], x.riderIs(0, 0), one[1]);
            Due.is("4 m of " + one[0], x.riderIs(0, 1), one[2]);
            Due.is("4 cell", x.riderIs(0, 2), 35);
        }
    }

    /** "a LOAD (0 at first), a RIDE (empty at first)", "WAY of step 0 .. 11 (-1: none)". */
    private static void emptyRide() {
        ShodBackwards x = new ShodBackwards();
        x.rider(0, 7);
        Due.is("5 no load", x.riderIs(0, 3), 0);
        Due.is("5 no ways", x.riderIs(0, 4), 0);
        Due.is("5 step", x.riderIs(0, 5), 0);
        for (int what = 8; what < 20; what++) {
            Due.is("5 none " + what, x.riderIs(0, what), -1);
        }
        x.way(0, 0);
        Due.is("5 north is no none", x.riderIs(0, 8), 0);
        Due.is("5 then none", x.riderIs(0, 9), -1);
    }

    /** "a RIDE: a row of WAYS (at most 12)", "BEYOND. FULL." */
    private static void fullRide() {
        ShodBackwards x = new ShodBackwards();
        x.rider(0, 0);
        for (int i = 0; i < 12; i++) {
            Due.is("5 none yet", x.riderIs(0, 8 + i), -1);
            Due.is("8 how many", x.way(0, 3 - i % 4), i + 1);
            Due.is("5 is the last", x.riderIs(0, 8 + i), 3 - i % 4);
        }
        Due.is("5 step 11", x.riderIs(0, 19), 0);
        Due.is("5 no step 12", x.riderIs(0, 20), Due.BEYOND);
        Due.is("8 full", x.way(0, 1), Due.FULL);
        Due.is("8 still 12", x.riderIs(0, 4), 12);
        Due.is("8 the last stays", x.riderIs(0, 19), 0);
        x.hours(12);
        Due.is("5 at the end", x.riderIs(0, 5), 12);
        Due.is("8 full when ridden out, too", x.way(0, 1), Due.FULL);
        x.hours(1);
        Due.is("5 no further", x.riderIs(0, 5), 12);
    }

    /** "DEPTH of a PRINT": LOAD by 10 is cut, half is cut; the least and the greatest LOAD and m. */
    private static void depths() {
        int[] loads = {0, 9, 10, 19, 98, 99};
        int[][] none = {{1, 1, 2, 2, 10, 10}, {1, 1, 2, 2, 10, 10}, {1, 1, 2, 2, 10, 10}, {0, 0, 0, 0, 0, 0},
            {2, 2, 4, 4, 20, 20}, {0, 0, 1, 1, 5, 5}, {1, 1, 2, 2, 10, 10}};
        int[][] nine = {{1, 1, 2, 2, 10, 10}, {1, 1, 2, 2, 10, 10}, {10, 10, 11, 11, 19, 19}, {0, 0, 0, 0, 0, 0},
            {2, 2, 4, 4, 20, 20}, {5, 5, 5, 5, 9, 9}, {1, 1, 2, 2, 10, 10}};
        for (int kind = 0; kind < 7; kind++) {
            ShodBackwards x = new ShodBackwards();
            x.rider(10 * kind, 0);
            for (int i = 0; i < loads.length; i++) {
                x.set(0, 3, loads[i]);
                x.set(0, 1, 0);
                Due.is("5 kind " + kind + ", load " + loads[i], x.riderIs(0, 6), none[kind][i]);
                x.set(0, 1, 9);
                Due.is("5 kind " + kind + ", m 9, load " + loads[i], x.riderIs(0, 6), nine[kind][i]);
            }
        }
    }

    /** "how many PRINTS are SEEN of that one": 0 ahead of the first, 0 behind the last. */
    private static void printsOfOne() {
        ShodBackwards x = new ShodBackwards();
        x.rider(0, 0);
        x.rider(0, 0);
        Due.ride(x, 1, "ee");
        Due.is("5 none yet", x.riderIs(1, 7), 0);
        x.hours(2);
        Due.is("5 both", x.riderIs(1, 7), 2);
        Due.is("5 none of the other", x.riderIs(0, 7), 0);
        x.hours(8);
        Due.is("5 one has gone", x.riderIs(1, 7), 1);
        x.hours(1);
        Due.is("5 all have gone", x.riderIs(1, 7), 0);
    }

    /** "KIND: it is not of that KIND, nor of one under it": under is not above, and not beside. */
    private static void asAnother() {
        ShodBackwards x = new ShodBackwards();
        x.rider(0, 0);
        x.set(0, 3, 99);
        Due.is("6 itself", x.as(0, 0), 99);
        for (int kind = 1; kind < 7; kind++) {
            Due.is("6 not one under it", x.as(0, kind), Due.KIND);
        }
        x.set(0, 0, 4);
        Due.is("6 two above", x.as(0, 0), 99);
        Due.is("6 one above", x.as(0, 1), 99);
        Due.is("6 beside", x.as(0, 5), Due.KIND);
        Due.is("6 another's above", x.as(0, 2), Due.KIND);
        x.set(0, 3, 0);
        Due.is("6 no load", x.as(0, 4), 0);
        Due.is("6 told", x.told(5), 8);
    }

    /** "KIND, m, CELL, LOAD, step of a RIDER becomes v": and nothing else of any RIDER. */
    private static void setOneThing() {
        int[] whats = {0, 1, 2, 3, 5};
        int[] values = {4, 8, 33, 77, 2};
        for (int i = 0; i < whats.length; i++) {
            ShodBackwards x = new ShodBackwards();
            x.rider(21, 5);
            x.rider(21, 5);
            for (int rider = 0; rider < 2; rider++) {
                x.set(rider, 3, 6);
                Due.ride(x, rider, "nes");
                x.set(rider, 5, 1);
            }
            int[] was = {2, 1, 5, 6, 3, 1};
            Due.is("7 what it was", x.set(1, whats[i], values[i]), was[whats[i]]);
            for (int what = 0; what < 6; what++) {
                Due.is("7 of " + whats[i] + ", " + what, x.riderIs(1, what), what == whats[i] ? values[i] : was[what]);
                Due.is("7 another one", x.riderIs(0, what), was[what]);
            }
            for (int what = 8; what < 20; what++) {
                Due.is("7 the ride", x.riderIs(1, what), what < 11 ? what - 8 : -1);
            }
        }
    }

    /** "step (5; 0 .. how many WAYS)": behind the last the RIDE is at its end, at 0 it is begun anew. */
    private static void setStep() {
        ShodBackwards x = new ShodBackwards();
        x.rider(0, 0);
        Due.is("7 of an empty ride", x.set(0, 5, 1), Due.BEYOND);
        Due.is("7 0 of an empty ride", x.set(0, 5, 0), 0);
        Due.ride(x, 0, "es");
        Due.is("7 one above", x.set(0, 5, 3), Due.BEYOND);
        Due.is("7 the end", x.set(0, 5, 2), 0);
        Due.is("7 at the end", x.hours(1), 0);
        Due.is("7 stays", x.riderIs(0, 2), 0);
        Due.is("7 the last step", x.set(0, 5, 1), 2);
        x.hours(1);
        Due.is("7 south", x.riderIs(0, 2), 6);
        Due.is("7 anew", x.set(0, 5, 0), 2);
        x.hours(2);
        Due.is("7 both", x.riderIs(0, 2), 13);
        x.way(0, 0);
        Due.is("7 one more way, one more step", x.set(0, 5, 3), 2);
    }

    /** Who is set into a CELL leaves no PRINT, at no border. */
    private static void setIsNoRide() {
        ShodBackwards x = new ShodBackwards();
        x.rider(0, 0);
        for (int cell = 35; cell >= 0; cell--) {
            x.set(0, 2, cell);
        }
        Due.is("7 no print", x.count(3), 0);
        Due.is("7 no hour", x.count(1), 0);
    }

    /** A PRINT stays as it was left when KIND, m, LOAD are other ones. */
    private static void oldPrintsStay() {
        ShodBackwards x = new ShodBackwards();
        x.rider(25, 14);
        x.set(0, 3, 40);
        Due.ride(x, 0, "ee");
        x.hours(1);
        x.set(0, 0, 0);
        x.set(0, 1, 0);
        x.set(0, 3, 0);
        x.hours(1);
        Due.is("7 old way", x.print(0, 1), 3);
        Due.is("7 old depth", x.print(0, 2), 10);
        Due.is("7 new way", x.print(1, 1), 1);
        Due.is("7 new depth", x.print(1, 2), 1);
        x.halt(0);
        Due.is("9 halt leaves them", x.cellIs(14, 3), 10);
    }

    /** "A WAY comes behind a RIDE": one that is at its end is ridden on. */
    private static void wayBehindTheEnd() {
        ShodBackwards x = new ShodBackwards();
        x.rider(0, 0);
        x.way(0, 1);
        x.hours(5);
        Due.is("8 at the end", x.riderIs(0, 2), 1);
        Due.is("8 two", x.way(0, 2), 2);
        x.hours(1);
        Due.is("8 rides on", x.riderIs(0, 2), 7);
        Due.is("8 in hour 5", x.print(1, 3), 5);
    }

    /** "A RIDE is emptied (step 0): how many WAYS it had": 0, 12; there is room for 12 then. */
    private static void haltEmpties() {
        ShodBackwards x = new ShodBackwards();
        x.rider(0, 0);
        x.rider(0, 5);
        x.way(1, 2);
        Due.is("9 empty", x.halt(0), 0);
        for (int round = 0; round < 2; round++) {
            Due.ride(x, 0, "esesesnwnwnw");
            x.hours(7);
            Due.is("9 twelve", x.halt(0), 12);
            Due.is("9 empty now", x.riderIs(0, 4), 0);
            Due.is("9 step 0", x.riderIs(0, 5), 0);
            Due.is("9 stays where it is", x.riderIs(0, 2), round == 0 ? 15 : 27);
            for (int what = 8; what < 20; what++) {
                Due.is("9 none", x.riderIs(0, what), -1);
            }
            x.set(0, 2, 18);
        }
        Due.is("9 another's stays", x.riderIs(1, 4), 1);
    }
}
