/** Promises 1 to 9: a new object, CELLS, RIDERS. */
public final class MoorTest {
    private static final int[] FAR_OFF = {Integer.MIN_VALUE, -1000, -1, Integer.MAX_VALUE};

    public static void main(String[] args) {
        newObject();
        ground();
        groundTakesPrints();
        frost();
        frostTakesPrints();
        rider();
        riderIs();
        as();
        set();
        way();
        halt();
        Due.end();
    }

    private static void newObject() {
        ShodBackwards x = new ShodBackwards();
        for (int what = 0; what < 7; what++) {
            Due.is("1 count " + what, x.count(what), 0);
        }
        Due.is("1 z", x.count(7), 1);
        for (int cell = 0; cell < 36; cell++) {
            Due.is("1 ground", x.cellIs(cell, 0), 0);
            Due.is("1 prints", x.cellIs(cell, 1), 0);
            Due.is("1 latest", x.cellIs(cell, 2), -1);
            Due.is("1 deepest", x.cellIs(cell, 3), 0);
            Due.is("1 doubt", x.cellIs(cell, 4), 99);
        }
        for (int k = 1; k <= 6; k++) {
            Due.is("1 told " + k, x.told(k), 0);
        }
        Due.is("1 rider 0", x.riderIs(0, 0), Due.BEYOND);
        Due.is("1 print 0", x.print(0, 0), Due.BEYOND);
        Due.is("1 image", x.restore(), Due.NONE);
        Due.is("1 trace", x.body(0), Due.NONE);
        Due.is("1 shoes", x.untell(0), 0);
        Due.is("1 doubt", x.untell(1), 0);
        for (int sheet = 0; sheet < 4; sheet++) {
            Due.is("1 sheet", x.put(sheet, 0, 0), Due.NONE);
        }
    }

    private static void ground() {
        ShodBackwards x = new ShodBackwards();
        Due.is("2 to rock", x.ground(35, 2), 0);
        Due.is("2 to stream", x.ground(35, 3), 2);
        Due.is("2 to grass", x.ground(35, 1), 3);
        Due.is("2 to peat", x.ground(35, 0), 1);
        Due.is("2 first cell", x.ground(0, 3), 0);
        Due.is("2 is", x.cellIs(0, 0), 3);
        Due.is("2 others", x.cellIs(1, 0), 0);
        Due.is("2 v 4", x.ground(0, 4), Due.BEYOND);
        Due.is("2 cell 36", x.ground(36, 0), Due.BEYOND);
        for (int bad : FAR_OFF) {
            Due.is("2 v " + bad, x.ground(0, bad), Due.BEYOND);
            Due.is("2 cell " + bad, x.ground(bad, 0), Due.BEYOND);
        }
        Due.is("2 unchanged", x.cellIs(0, 0), 3);
        Due.is("2 told", x.told(1), 10);
    }

    private static void groundTakesPrints() {
        ShodBackwards x = new ShodBackwards();
        x.rider(0, 0);
        Due.ride(x, 0, "eee");
        Due.is("2 three prints", x.hours(3), 3);
        x.ground(2, 2);
        Due.is("2 rock keeps one hour", x.count(3), 3);
        x.ground(1, 2);
        Due.is("2 rock keeps no more", x.count(3), 2);
        x.ground(1, 0);
        Due.is("2 gone for good", x.count(3), 2);
        x.ground(2, 3);
        Due.is("2 stream keeps none", x.count(3), 1);
        Due.is("2 the first stands", x.print(0, 0), 0);
        x.ground(0, 1);
        Due.is("2 grass keeps four", x.hours(1), 1);
        Due.is("2 grass keeps no more", x.hours(1), 0);
    }

    private static void frost() {
        ShodBackwards x = new ShodBackwards();
        Due.is("3 to 9", x.frost(9), 0);
        Due.is("3 count", x.count(2), 9);
        Due.is("3 to 4", x.frost(4), 9);
        Due.is("3 10", x.frost(10), Due.BEYOND);
        for (int bad : FAR_OFF) {
            Due.is("3 " + bad, x.frost(bad), Due.BEYOND);
        }
        Due.is("3 unchanged", x.count(2), 4);
        Due.is("3 to 0", x.frost(0), 4);
        int[] keeps = {9, 4, 1};
        for (int soil = 0; soil < 3; soil++) {
            for (int v = 0; v <= 9; v++) {
                Due.is("3 seen to the end", printsBehind(soil, v, keeps[soil] + (soil < 2 ? v : 0)), 1);
                Due.is("3 seen no more", printsBehind(soil, v, keeps[soil] + (soil < 2 ? v : 0) + 1), 0);
            }
        }
        Due.is("3 stream", printsBehind(3, 9, 1), 0);
    }

    /** How many PRINTS are SEEN so many HOURS after one was left. */
    private static int printsBehind(int soil, int frost, int hours) {
        ShodBackwards x = new ShodBackwards();
        x.ground(0, soil);
        x.frost(frost);
        x.rider(0, 0);
        x.way(0, 1);
        return x.hours(hours);
    }

    private static void frostTakesPrints() {
        ShodBackwards x = new ShodBackwards();
        x.frost(3);
        x.ground(0, 2);
        x.ground(1, 1);
        x.rider(0, 0);
        x.rider(0, 1);
        x.rider(0, 2);
        for (int rider = 0; rider < 3; rider++) {
            x.way(rider, 2);
        }
        Due.is("3 all", x.hours(1), 3);
        Due.is("3 rock has no frost", x.hours(1), 2);
        Due.is("3 peat, grass", x.hours(5), 2);
        x.frost(2);
        Due.is("3 grass thaws", x.count(3), 1);
        Due.is("3 peat stands", x.print(0, 0), 2);
        x.frost(9);
        Due.is("3 gone for good", x.count(3), 1);
        Due.is("3 peat to the end", x.hours(11), 1);
        x.frost(8);
        Due.is("3 peat thaws", x.count(3), 0);
    }

    private static void rider() {
        ShodBackwards x = new ShodBackwards();
        Due.is("4 km -1", x.rider(-1, 0), Due.BEYOND);
        Due.is("4 km 70", x.rider(70, 0), Due.BEYOND);
        Due.is("4 cell -1", x.rider(0, -1), Due.BEYOND);
        Due.is("4 cell 36", x.rider(0, 36), Due.BEYOND);
        for (int bad : FAR_OFF) {
            Due.is("4 km " + bad, x.rider(bad, 0), Due.BEYOND);
            Due.is("4 cell " + bad, x.rider(0, bad), Due.BEYOND);
        }
        Due.is("4 none made", x.count(0), 0);
        int[] km = {0, 69, 27, 50, 15};
        for (int i = 0; i < 5; i++) {
            Due.is("4 number", x.rider(km[i], 7 * i), i);
            Due.is("4 kind", x.riderIs(i, 0), km[i] / 10);
            Due.is("4 m", x.riderIs(i, 1), km[i] % 10);
            Due.is("4 cell", x.riderIs(i, 2), 7 * i);
            Due.is("4 load", x.riderIs(i, 3), 0);
            Due.is("4 ride", x.riderIs(i, 4), 0);
            Due.is("4 step", x.riderIs(i, 5), 0);
        }
        Due.is("4 how many", x.count(0), 5);
        Due.is("4 beyond first", x.rider(0, 36), Due.BEYOND);
        Due.is("4 full", x.rider(0, 35), Due.FULL);
        Due.is("4 still", x.count(0), 5);
    }

    private static void riderIs() {
        ShodBackwards x = new ShodBackwards();
        x.rider(0, 0);
        x.rider(25, 8);
        x.set(1, 3, 99);
        Due.ride(x, 1, "nesw");
        int[] before = {2, 5, 8, 99, 4, 0, 15, 0, 0, 1, 2, 3, -1, -1, -1, -1, -1, -1, -1, -1};
        int[] behind = {2, 5, 9, 99, 4, 3, 15, 3, 0, 1, 2, 3, -1, -1, -1, -1, -1, -1, -1, -1};
        for (int what = 0; what < 20; what++) {
            Due.is("5 before " + what, x.riderIs(1, what), before[what]);
        }
        x.way(0, 2);
        Due.is("5 prints", x.hours(3), 4);
        for (int what = 0; what < 20; what++) {
            Due.is("5 behind " + what, x.riderIs(1, what), behind[what]);
        }
        Due.is("5 of that one", x.riderIs(0, 7), 1);
        int[] depth = {10, 10, 15, 0, 20, 7, 10};
        int[] light = {3, 3, 8, 0, 6, 4, 3};
        for (int kind = 0; kind < 7; kind++) {
            x.set(1, 0, kind);
            x.set(1, 3, 99);
            Due.is("5 depth of " + kind, x.riderIs(1, 6), depth[kind]);
            x.set(1, 3, 29);
            Due.is("5 light depth of " + kind, x.riderIs(1, 6), light[kind]);
        }
        Due.is("5 rider 2", x.riderIs(2, 0), Due.BEYOND);
        Due.is("5 what 20", x.riderIs(1, 20), Due.BEYOND);
        for (int bad : FAR_OFF) {
            Due.is("5 rider " + bad, x.riderIs(bad, 0), Due.BEYOND);
            Due.is("5 what " + bad, x.riderIs(1, bad), Due.BEYOND);
        }
    }

    private static void as() {
        String[] is = {"0", "01", "02", "03", "014", "025", "06"};
        for (int kind = 0; kind < 7; kind++) {
            ShodBackwards x = new ShodBackwards();
            x.rider(kind * 10, 0);
            x.set(0, 3, 10 + kind);
            int unlike = 0;
            for (int above = 0; above < 7; above++) {
                boolean fits = is[kind].indexOf('0' + above) >= 0;
                unlike += fits ? 0 : 1;
                Due.is("6 " + kind + " as " + above, x.as(0, above), fits ? 10 + kind : Due.KIND);
            }
            Due.is("6 told", x.told(5), unlike);
            Due.is("6 kind 7", x.as(0, 7), Due.BEYOND);
            Due.is("6 kind -1", x.as(0, -1), Due.BEYOND);
            Due.is("6 rider 1", x.as(1, 0), Due.BEYOND);
            Due.is("6 rider -1", x.as(-1, 0), Due.BEYOND);
        }
    }

    private static void set() {
        ShodBackwards x = new ShodBackwards();
        x.rider(0, 0);
        x.rider(34, 21);
        Due.ride(x, 1, "ne");
        int[] whats = {0, 1, 2, 3, 5};
        int[] was = {3, 4, 21, 0, 0};
        int[] most = {6, 9, 35, 99, 2};
        for (int i = 0; i < whats.length; i++) {
            Due.is("7 to most " + whats[i], x.set(1, whats[i], most[i]), was[i]);
            Due.is("7 is " + whats[i], x.riderIs(1, whats[i]), most[i]);
            Due.is("7 too much " + whats[i], x.set(1, whats[i], most[i] + 1), Due.BEYOND);
            Due.is("7 below " + whats[i], x.set(1, whats[i], -1), Due.BEYOND);
            Due.is("7 unchanged " + whats[i], x.riderIs(1, whats[i]), most[i]);
            Due.is("7 to least " + whats[i], x.set(1, whats[i], 0), most[i]);
            Due.is("7 is least " + whats[i], x.riderIs(1, whats[i]), 0);
        }
        for (int what : new int[] {Integer.MIN_VALUE, -1, 4, 6, 7, 8, 19, Integer.MAX_VALUE}) {
            Due.is("7 what " + what, x.set(1, what, 0), Due.BEYOND);
        }
        Due.is("7 rider 2", x.set(2, 0, 0), Due.BEYOND);
        Due.is("7 rider -1", x.set(-1, 0, 0), Due.BEYOND);
        Due.is("7 no ride, step 0", x.set(0, 5, 0), 0);
        Due.is("7 no ride, step 1", x.set(0, 5, 1), Due.BEYOND);
        Due.is("7 other one", x.riderIs(0, 3), 0);
    }

    private static void way() {
        ShodBackwards x = new ShodBackwards();
        x.rider(0, 0);
        Due.is("8 way 4", x.way(0, 4), Due.BEYOND);
        Due.is("8 way -1", x.way(0, -1), Due.BEYOND);
        Due.is("8 rider 1", x.way(1, 0), Due.BEYOND);
        Due.is("8 rider -1", x.way(-1, 0), Due.BEYOND);
        for (int i = 0; i < 12; i++) {
            Due.is("8 how many", x.way(0, i % 4), i + 1);
        }
        Due.is("8 beyond first", x.way(0, 4), Due.BEYOND);
        Due.is("8 full", x.way(0, 0), Due.FULL);
        for (int i = 0; i < 12; i++) {
            Due.is("8 in order", x.riderIs(0, 8 + i), i % 4);
        }
        x.hours(3);
        Due.is("8 full still", x.way(0, 0), Due.FULL);
    }

    private static void halt() {
        ShodBackwards x = new ShodBackwards();
        x.rider(0, 0);
        Due.ride(x, 0, "eesw");
        x.hours(2);
        Due.is("9 rider 1", x.halt(1), Due.BEYOND);
        Due.is("9 rider -1", x.halt(-1), Due.BEYOND);
        Due.is("9 had four", x.halt(0), 4);
        Due.is("9 no ride", x.riderIs(0, 4), 0);
        Due.is("9 no step", x.riderIs(0, 5), 0);
        Due.is("9 no way", x.riderIs(0, 8), -1);
        Due.is("9 stays", x.riderIs(0, 2), 2);
        Due.is("9 prints stay", x.count(3), 2);
        Due.is("9 had none", x.halt(0), 0);
        Due.ride(x, 0, "s");
        x.hours(1);
        Due.is("9 rides anew", x.riderIs(0, 2), 8);
    }
}
