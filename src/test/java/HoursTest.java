/** Promises 13 to 18: HOURS, DRAWS, PRINTS, FOLLOW. */
public final class HoursTest {
    /** What each KIND shows at steps 0 .. 5 of one who goes north, east, south, west; - none. */
    private static final String[] NORTH = {"nnnnnn", "ssssss", "snnnsn", "------", "snsnsn", "snnnsn"};
    private static final String[] EAST = {"eeeeee", "wwwwww", "weeewe", "------", "wewewe", "ewwwew"};
    private static final String[] SOUTH = {"ssssss", "nnnnnn", "nsssns", "------", "nsnsns", "nsssns"};
    private static final String[] WEST = {"wwwwww", "eeeeee", "ewwwew", "------", "ewewew", "weeewe"};

    public static void main(String[] args) {
        shows();
        shoes();
        depths();
        border();
        allCells();
        grounds();
        fortyPrints();
        allForty();
        streamAtForty();
        hours();
        lastHour();
        draws();
        seed();
        print();
        cellIs();
        follow();
        followLatest();
        Due.end();
    }

    private static void shows() {
        for (int kind = 0; kind < 6; kind++) {
            String[] shown = {NORTH[kind], EAST[kind], SOUTH[kind], WEST[kind]};
            for (int way = 0; way < 4; way++) {
                for (int step = 0; step < 6; step++) {
                    Due.is("13 kind " + kind + ", way " + way + ", step " + step,
                        shownAt(kind, way, step), "nesw".indexOf(shown[way].charAt(step)));
                }
            }
        }
    }

    /** The WAY that one shows who goes a WAY at a step; -1: no PRINT. */
    private static int shownAt(int kind, int way, int step) {
        ShodBackwards x = new ShodBackwards();
        x.rider(kind * 10 + 3, 14);
        for (int i = 0; i <= step; i++) {
            x.way(0, way);
        }
        x.set(0, 5, step);
        x.hours(1);
        return x.count(3) == 0 ? -1 : x.print(0, 1);
    }

    private static int shownBy(String shoes, int m, int way) {
        ShodBackwards x = new ShodBackwards();
        x.rider(60 + m, 14);
        x.way(0, way);
        if (!shoes.isEmpty()) {
            Due.is("13 shoes " + shoes, Due.text(x, 0, shoes), 1);
        }
        x.hours(1);
        Due.is("13 goes", x.riderIs(0, 2) == 14 ? 1 : 0, 0);
        return x.count(3) == 0 ? -1 : x.print(0, 1);
    }

    private static void shoes() {
        Due.is("13 w+m", shownBy("", 0, 3), 3);
        Due.is("13 w+m by 4", shownBy("", 7, 3), 2);
        Due.is("13 7", shownBy("7", 0, 3), 3);
        Due.is("13 8", shownBy("8", 0, 3), 0);
        Due.is("13 0", shownBy("0", 0, 3), 0);
        Due.is("13 -1", shownBy("0-1", 0, 3), -1);
        Due.is("13 -4", shownBy("0-4", 0, 3), -1);
        Due.is("13 m-w", shownBy("m-w", 2, 1), 1);
        Due.is("13 m-w below", shownBy("m-w", 2, 3), -1);
    }

    private static void depths() {
        int[] want = {10, 10, 14, -1, 20, 7, 10};
        for (int kind = 0; kind < 7; kind++) {
            ShodBackwards x = new ShodBackwards();
            x.rider(kind * 10 + 4, 14);
            x.set(0, 3, 90);
            x.way(0, 1);
            x.hours(1);
            Due.is("13 depth of " + kind, x.count(3) == 0 ? -1 : x.print(0, 2), want[kind]);
        }
    }

    private static void border() {
        int[] corners = {0, 5, 35, 30};
        for (int way = 0; way < 4; way++) {
            ShodBackwards x = new ShodBackwards();
            x.rider(0, corners[way]);
            x.way(0, way);
            x.way(0, (way + 3) % 4);
            x.way(0, (way + 2) % 4);
            Due.is("13 no print at the border", x.hours(1), 0);
            Due.is("13 stays", x.riderIs(0, 2), corners[way]);
            Due.is("13 the step is over", x.riderIs(0, 5), 1);
            Due.is("13 another border", x.hours(1), 0);
            Due.is("13 rides on", x.hours(1), 1);
            Due.is("13 step", x.riderIs(0, 5), 3);
            Due.is("13 hour of the print", x.print(0, 3), 2);
            int[] next = {6, 4, 29, 31};
            Due.is("13 next cell", x.riderIs(0, 2), next[way]);
            Due.is("13 the ride is over", x.hours(1), 1);
            Due.is("13 step stays", x.riderIs(0, 5), 3);
            Due.is("13 cell stays", x.riderIs(0, 2), next[way]);
        }
    }

    private static void allCells() {
        for (int cell = 0; cell < 36; cell++) {
            int row = cell / 6;
            int column = cell % 6;
            int[] next = {row > 0 ? cell - 6 : cell, column < 5 ? cell + 1 : cell, row < 5 ? cell + 6 : cell,
                column > 0 ? cell - 1 : cell};
            for (int way = 0; way < 4; way++) {
                ShodBackwards x = new ShodBackwards();
                x.rider(0, cell);
                x.way(0, way);
                Due.is("13 print in " + cell, x.hours(1), next[way] == cell ? 0 : 1);
                Due.is("13 from " + cell + " by " + way, x.riderIs(0, 2), next[way]);
                Due.is("18 from " + cell + " by " + way, x.follow(cell, 0, 40, 0), next[way]);
                Due.is("17 of the only one", x.cellIs(cell, 2), next[way] == cell ? -1 : way);
                Due.is("17 doubt of the only one", x.cellIs(cell, 4), next[way] == cell ? 99 : 1);
            }
        }
    }

    private static void grounds() {
        ShodBackwards x = new ShodBackwards();
        x.ground(1, 3);
        x.ground(2, 2);
        x.rider(0, 0);
        Due.ride(x, 0, "eeee");
        Due.is("13 peat", x.hours(1), 1);
        Due.is("13 no print in a stream", x.hours(1), 1);
        Due.is("13 rock", x.hours(1), 2);
        Due.is("13 rock no more", x.hours(1), 2);
        Due.is("13 first", x.print(0, 0), 0);
        Due.is("13 last", x.print(1, 0), 3);
        Due.is("13 through", x.riderIs(0, 2), 4);
    }

    /** In a STREAM none is left, so none has to go for it. */
    private static void streamAtForty() {
        ShodBackwards x = new ShodBackwards();
        fill(x);
        x.halt(0);
        x.set(0, 2, 35);
        x.ground(35, 3);
        x.way(0, 3);
        Due.is("13 still 40", x.hours(1), 40);
        Due.is("13 still the oldest", x.print(0, 4), 0);
    }

    /** Five RIDERS leave 40 PRINTS in 8 HOURS; their RIDES are over then. */
    private static void fill(ShodBackwards x) {
        x.frost(9);
        for (int i = 0; i < 5; i++) {
            x.rider(0, 6 * i);
            Due.ride(x, i, "eeewwwes");
        }
        Due.is("13 forty", x.hours(8), 40);
    }

    private static void allForty() {
        ShodBackwards x = new ShodBackwards();
        fill(x);
        int[] columns = {0, 1, 2, 3, 2, 1, 0, 1};
        int[] shown = {1, 1, 1, 3, 3, 3, 1, 2};
        for (int k = 0; k < 2; k++) {
            // The second time the first two have gone for two new ones.
            for (int i = 0; i < 40 - 2 * k; i++) {
                int left = i + 2 * k;
                int[] want = {6 * (left % 5) + columns[left / 5], shown[left / 5], 1, left / 5, left % 5};
                for (int what = 0; what < 5; what++) {
                    Due.is("16 print " + i + ", " + what, x.print(i, what), want[what]);
                }
            }
            for (int rider = 0; rider < 5; rider++) {
                Due.is("19 prints of " + rider, x.then(0, rider, 7), k == 0 ? 8 : rider < 2 ? 7 : rider > 2 ? 9 : 8);
            }
            Due.is("20 doubt ahead", x.thenCell(0, 1, 4), k + 1);
            for (int rider = 3; rider < 5 && k == 0; rider++) {
                Due.ride(x, rider, "n");
            }
            x.hours(1);
        }
    }

    private static void fortyPrints() {
        ShodBackwards x = new ShodBackwards();
        x.frost(9);
        for (int i = 0; i < 5; i++) {
            x.rider(0, 6 * i);
            Due.ride(x, i, "ewewewewewe");
        }
        for (int n = 1; n <= 8; n++) {
            Due.is("13 prints", x.hours(1), 5 * n);
        }
        Due.is("13 the oldest", x.print(0, 3), 0);
        x.halt(3);
        x.halt(4);
        Due.is("13 at most 40", x.hours(1), 40);
        Due.is("13 the oldest three went", x.print(0, 3), 0);
        Due.is("13 the fourth is first", x.print(0, 4), 3);
        Due.is("13 the fifth", x.print(1, 4), 4);
        Due.is("13 then another hour", x.print(2, 3), 1);
        Due.is("13 the latest", x.print(39, 3), 8);
        Due.is("13 whose", x.print(39, 4), 2);
        Due.is("13 no 41st", x.print(40, 0), Due.BEYOND);
    }

    private static void hours() {
        ShodBackwards x = new ShodBackwards();
        for (int n : new int[] {Integer.MIN_VALUE, -1, 0, 25, Integer.MAX_VALUE}) {
            Due.is("13 n " + n, x.hours(n), Due.BEYOND);
            Due.is("14 n " + n, x.draws(n), Due.BEYOND);
        }
        Due.is("13 no hour", x.count(1), 0);
        x.rider(0, 0);
        x.rider(10, 0);
        Due.ride(x, 0, "ee");
        Due.ride(x, 1, "s");
        Due.is("13 two hours", x.hours(2), 3);
        Due.is("13 hour", x.count(1), 2);
        Due.is("13 to the last hour of two", x.hours(7), 3);
        Due.is("13 one is seen", x.hours(1), 1);
        Due.is("13 a day", x.hours(24), 0);
        Due.is("13 hour 34", x.count(1), 34);
    }

    private static void lastHour() {
        ShodBackwards x = new ShodBackwards();
        for (int i = 0; i < 416; i++) {
            x.hours(24);
        }
        Due.is("13 hour", x.count(1), 9984);
        Due.is("13 above", x.hours(16), Due.STATE);
        Due.is("13 beyond first", x.hours(25), Due.BEYOND);
        Due.is("14 above", x.draws(16), Due.STATE);
        Due.is("14 beyond first", x.draws(0), Due.BEYOND);
        Due.is("14 no draw", x.count(7), 1);
        Due.is("13 unchanged", x.count(1), 9984);
        Due.is("33 image", x.image(), 1);
        Due.is("14 to the last", x.draws(15), 0);
        Due.is("14 hour", x.count(1), 9999);
        Due.is("34 back", x.restore(), 9984);
        Due.is("14 last but one", x.draws(14), 0);
        Due.is("13 last", x.hours(1), 0);
        Due.is("13 hour", x.count(1), 9999);
        Due.is("13 one above", x.hours(1), Due.STATE);
        Due.is("14 one above", x.draws(1), Due.STATE);
        x.rider(0, 0);
        Due.ride(x, 0, "eee");
        Due.is("19 ahead goes by", x.then(2, 0, 2), 2);
        Due.is("20 ahead goes by", x.thenCell(3, 1, 4), 2);
        Due.is("22 nothing yet", x.kinds(0, 0, 9999), 63);
        Due.is("23 ahead goes by", x.leastFound(0, 3), 1);
        Due.is("13 still", x.count(1), 9999);
    }

    private static int next(int z) {
        return z * 1103515245 + 12345;
    }

    private static void draws() {
        ShodBackwards x = new ShodBackwards();
        int z = 1;
        for (int i = 0; i < 40; i++) {
            x.rider(0, 0);
            x.set(0, 2, i % 36);
            x.halt(0);
            x.way(0, 1);
            x.draws(1);
            z = next(z);
            Due.is("14 z", x.count(7), z);
            int cell = (z >>> 8) % 36;
            Due.is("14 trodden", x.cellIs(cell, 1), 0);
        }
        Due.is("14 hours", x.count(1), 40);
        for (int seed = 0; seed < 60; seed++) {
            ShodBackwards y = new ShodBackwards();
            y.seed(seed);
            for (int i = 0; i < 5; i++) {
                y.rider(0, 7 * i);
                Due.ride(y, i, "eee");
            }
            int drawn = (next(seed) >>> 8) % 36;
            // The draw comes behind the HOUR: the PRINT that was just left goes, too.
            Due.is("14 one draw of " + seed, y.draws(1), drawn % 7 == 0 && drawn < 35 ? 4 : 5);
            Due.is("14 cell of " + seed, y.cellIs(drawn, 1), 0);
        }
    }

    private static void seed() {
        ShodBackwards x = new ShodBackwards();
        Due.is("15 at first", x.seed(Integer.MIN_VALUE), 1);
        Due.is("15 any", x.seed(Due.BEYOND), Integer.MIN_VALUE);
        Due.is("15 any number", x.seed(-1), Due.BEYOND);
        Due.is("15 no error", x.told(1), 0);
        x.draws(2);
        Due.is("15 two draws", x.seed(1), next(next(-1)));
        Due.is("15 z", x.count(7), 1);
    }

    private static void print() {
        ShodBackwards x = new ShodBackwards();
        x.hours(3);
        x.rider(0, 7);
        x.rider(19, 8);
        x.set(1, 3, 35);
        Due.ride(x, 0, "e");
        Due.ride(x, 1, "ss");
        x.hours(2);
        int[][] want = {{7, 1, 1, 3, 0}, {8, 0, 4, 3, 1}, {14, 0, 4, 4, 1}};
        for (int i = 0; i < 3; i++) {
            for (int what = 0; what < 5; what++) {
                Due.is("16 print " + i + ", " + what, x.print(i, what), want[i][what]);
            }
        }
        Due.is("16 print 3", x.print(3, 0), Due.BEYOND);
        Due.is("16 what 5", x.print(0, 5), Due.BEYOND);
        for (int bad : new int[] {Integer.MIN_VALUE, -1, Integer.MAX_VALUE}) {
            Due.is("16 print " + bad, x.print(bad, 0), Due.BEYOND);
            Due.is("16 what " + bad, x.print(0, bad), Due.BEYOND);
        }
    }

    private static void cellIs() {
        ShodBackwards x = new ShodBackwards();
        x.ground(8, 1);
        x.rider(0, 8);
        x.rider(0, 8);
        x.rider(0, 9);
        x.set(0, 3, 50);
        x.set(1, 3, 20);
        x.set(2, 3, 99);
        Due.ride(x, 0, "e");
        Due.ride(x, 1, "s");
        Due.ride(x, 2, "n");
        x.hours(2);
        int[] want = {1, 2, 2, 6, 2};
        for (int what = 0; what < 5; what++) {
            Due.is("17 " + what, x.cellIs(8, what), want[what]);
        }
        Due.is("17 another", x.cellIs(9, 3), 10);
        x.hours(24);
        int[] faded = {1, 0, -1, 0, 99};
        for (int what = 0; what < 5; what++) {
            Due.is("17 faded " + what, x.cellIs(8, what), faded[what]);
        }
        Due.is("17 cell 36", x.cellIs(36, 0), Due.BEYOND);
        Due.is("17 what 5", x.cellIs(0, 5), Due.BEYOND);
        for (int bad : new int[] {Integer.MIN_VALUE, -1, Integer.MAX_VALUE}) {
            Due.is("17 cell " + bad, x.cellIs(bad, 0), Due.BEYOND);
            Due.is("17 what " + bad, x.cellIs(0, bad), Due.BEYOND);
        }
    }

    private static void follow() {
        ShodBackwards x = new ShodBackwards();
        x.rider(0, 0);
        Due.ride(x, 0, "eess");
        x.rider(10, 35);
        Due.ride(x, 1, "wn");
        x.hours(4);
        Due.is("18 to the end", x.follow(0, 0, 40, 0), 14);
        Due.is("18 steps", x.follow(0, 0, 40, 1), 4);
        Due.is("18 three", x.follow(0, 0, 3, 0), 8);
        Due.is("18 three steps", x.follow(0, 0, 3, 1), 3);
        Due.is("18 none", x.follow(0, 0, 0, 0), 0);
        Due.is("18 no step", x.follow(0, 0, 0, 1), 0);
        Due.is("18 no print", x.follow(20, 0, 40, 0), 20);
        Due.is("18 not believing", x.follow(2, 1, 40, 0), 2);
        Due.is("18 not believing, at the border", x.follow(2, 1, 40, 1), 0);
        Due.is("18 back", x.follow(1, 1, 40, 0), 0);
        Due.is("18 one back, then the border", x.follow(1, 1, 40, 1), 1);
        Due.is("18 turned, believed, border", x.follow(34, 0, 40, 0), 34);
        Due.is("18 turned, believed, no step", x.follow(35, 0, 40, 1), 0);
        Due.is("18 turned, not believed", x.follow(35, 1, 40, 0), 28);
        Due.is("18 turned, steps", x.follow(35, 1, 40, 1), 2);
        int[][] bad = {{-1, 0, 0, 0}, {36, 0, 0, 0}, {0, -1, 0, 0}, {0, 2, 0, 0}, {0, 0, -1, 0}, {0, 0, 41, 0},
            {0, 0, 0, -1}, {0, 0, 0, 2}, {Integer.MIN_VALUE, 0, 0, 0}, {0, 0, Integer.MAX_VALUE, 0}};
        for (int[] b : bad) {
            Due.is("18 beyond", x.follow(b[0], b[1], b[2], b[3]), Due.BEYOND);
        }
    }

    private static void followLatest() {
        ShodBackwards x = new ShodBackwards();
        x.rider(0, 14);
        x.rider(0, 14);
        Due.ride(x, 0, "ew");
        Due.ride(x, 1, "ns");
        x.hours(1);
        Due.is("18 of one hour the greater number", x.follow(14, 0, 1, 0), 8);
        x.hours(1);
        Due.is("18 round and round", x.follow(14, 0, 40, 0), 14);
        Due.is("18 round and round, steps", x.follow(14, 0, 40, 1), 40);
        Due.is("18 odd", x.follow(14, 0, 39, 0), 8);
        x.halt(0);
        Due.ride(x, 0, "s");
        x.hours(1);
        Due.is("18 the latest hour", x.follow(14, 0, 1, 0), 20);
    }
}
