/** Promises 13 to 18: a test for each sentence of the document that names an edge; the sentence stands ahead of it. */
public final class EdgesOfHoursTest {
    public static void main(String[] args) {
        hoursOneToDay();
        noRideNoPrint();
        atTheBorder();
        groundKeepsNone();
        byNumbers();
        fortyAndNoMore();
        oldestGoesAheadOfFading();
        oldestOfOneHour();
        lastHour();
        limpsByFour();
        drawsOneToDay();
        drawsTreadBehindTheHour();
        drawsTreadAll();
        drawnAtTheEdges();
        drawsAreHoursToo();
        seeds();
        prints();
        emptyCell();
        deepestThatIsSeen();
        latestOfSeveral();
        followNone();
        followRound();
        followToTheBorder();
        followFadedPrints();
        Due.end();
    }

    /** "n (1 .. 24) HOURS: how many PRINTS are SEEN": behind them all. */
    private static void hoursOneToDay() {
        int[] seen = {1, 2, 3, 3, 3, 3, 3, 3, 3, 2, 1, 0};
        for (int n = 1; n <= 24; n++) {
            ShodBackwards x = new ShodBackwards();
            x.rider(0, 0);
            Due.ride(x, 0, "ees");
            Due.is("13 behind " + n, x.hours(n), n > 12 ? 0 : seen[n - 1]);
            Due.is("13 hour", x.count(1), n);
            Due.is("13 step", x.riderIs(0, 5), Math.min(n, 3));
            ShodBackwards y = new ShodBackwards();
            y.rider(0, 0);
            Due.ride(y, 0, "ees");
            for (int i = 0; i < n; i++) {
                y.hours(1);
            }
            Due.is("13 one by one", y.count(3), x.count(3));
        }
        ShodBackwards x = new ShodBackwards();
        Due.is("13 none", x.hours(0), Due.BEYOND);
        Due.is("13 a day and one", x.hours(25), Due.BEYOND);
        Due.is("13 no riders", x.hours(24), 0);
    }

    /** "each RIDER whose RIDE isn't at its end". */
    private static void noRideNoPrint() {
        ShodBackwards x = new ShodBackwards();
        x.rider(0, 14);
        Due.is("13 empty ride", x.hours(24), 0);
        Due.is("13 stays", x.riderIs(0, 2), 14);
        Due.is("13 no step", x.riderIs(0, 5), 0);
        Due.ride(x, 0, "n");
        Due.is("13 one", x.hours(1), 1);
        Due.is("13 at the end", x.hours(1), 1);
        Due.is("13 one step", x.riderIs(0, 5), 1);
        Due.is("13 one cell", x.riderIs(0, 2), 8);
    }

    /** "at the border it doesn't go (the step is over); else a PRINT is left": on each cell of each border. */
    private static void atTheBorder() {
        int[][] border = {{0, 1, 2, 3, 4, 5}, {5, 11, 17, 23, 29, 35}, {30, 31, 32, 33, 34, 35},
            {0, 6, 12, 18, 24, 30}};
        for (int way = 0; way < 4; way++) {
            for (int cell : border[way]) {
                ShodBackwards x = new ShodBackwards();
                x.rider(0, cell);
                for (int i = 0; i < 12; i++) {
                    x.way(0, way);
                }
                Due.is("13 no print", x.hours(12), 0);
                Due.is("13 doesn't go", x.riderIs(0, 2), cell);
                Due.is("13 the steps are over", x.riderIs(0, 5), 12);
                x.halt(0);
                x.way(0, (way + 2) % 4);
                Due.is("13 the other way", x.hours(1), 1);
            }
        }
        ShodBackwards x = new ShodBackwards();
        x.rider(20, 0);
        Due.ride(x, 0, "neee");
        x.hours(4);
        Due.is("13 the step at the border counts", x.print(0, 1), 1);
        Due.is("13 in the next hour", x.print(0, 3), 1);
    }

    /** "if SHOWS tells one, and its GROUND KEEPS any": of the CELL that is left, not of the next one. */
    private static void groundKeepsNone() {
        ShodBackwards x = new ShodBackwards();
        x.frost(9);
        x.ground(15, 3);
        x.rider(0, 14);
        Due.ride(x, 0, "ee");
        Due.is("13 into a stream", x.hours(1), 1);
        Due.is("13 out of a stream", x.hours(1), 1);
        Due.is("13 goes", x.riderIs(0, 2), 16);
        x.ground(15, 0);
        Due.is("13 none comes when it is peat", x.cellIs(15, 1), 0);
        ShodBackwards y = new ShodBackwards();
        y.rider(39, 14);
        Due.ride(y, 0, "ee");
        Due.is("13 a walker leaves none", y.hours(2), 0);
        Due.is("13 a walker goes", y.riderIs(0, 2), 16);
    }

    /** "by numbers each RIDER", "in one HOUR as they were left". */
    private static void byNumbers() {
        ShodBackwards x = new ShodBackwards();
        for (int i = 0; i < 5; i++) {
            x.rider(0, 30 - 6 * i);
            x.way(i, 1);
        }
        x.halt(2);
        Due.is("13 four", x.hours(1), 4);
        int[] who = {0, 1, 3, 4};
        for (int i = 0; i < 4; i++) {
            Due.is("13 whose", x.print(i, 4), who[i]);
            Due.is("13 where", x.print(i, 0), 30 - 6 * who[i]);
        }
    }

    /** Five RIDERS leave 5 PRINTS an HOUR; in 8 HOURS 40; RIDER 0 may ride on. */
    private static ShodBackwards forty(String further) {
        ShodBackwards x = new ShodBackwards();
        x.frost(9);
        for (int i = 0; i < 5; i++) {
            x.rider(0, 6 * i);
            Due.ride(x, i, "eweweeee");
        }
        Due.ride(x, 0, further);
        return x;
    }

    /** "40 PRINTS at most: the oldest one, which was left first, goes then". */
    private static void fortyAndNoMore() {
        ShodBackwards x = forty("w");
        Due.is("13 thirty-five", x.hours(7), 35);
        Due.is("13 forty", x.hours(1), 40);
        Due.is("13 none has gone", x.print(0, 4), 0);
        Due.is("16 the last of 40", x.print(39, 4), 4);
        Due.is("16 no print 40", x.print(40, 4), Due.BEYOND);
        Due.is("13 forty still", x.hours(1), 40);
        Due.is("13 the oldest has gone", x.print(0, 4), 1);
        Due.is("13 the latest is there", x.print(39, 4), 0);
        Due.is("13 of hour 8", x.print(39, 3), 8);
        Due.is("13 none of the first hour there", x.riderIs(0, 7), 8);
        Due.is("13 no more rides", x.hours(1), 40);
    }

    /** "the oldest one goes then": ahead of those that are gone with the HOUR because they are no more SEEN. */
    private static void oldestGoesAheadOfFading() {
        ShodBackwards x = forty("w");
        for (int row = 0; row < 5; row++) {
            x.ground(6 * row + 3, 2);
        }
        Due.is("13 forty", x.hours(8), 40);
        Due.is("13 the latest five are on rock", x.print(35, 0), 3);
        Due.is("19 ahead", x.then(1, 0, 7), 7);
        Due.is("13 one went, five faded", x.hours(1), 35);
        Due.is("13 the oldest is of rider 1", x.print(0, 4), 1);
        Due.is("13 of hour 0", x.print(0, 3), 0);
    }

    /** More than one is left in an HOUR when there are 40: by one each time the oldest goes. */
    private static void oldestOfOneHour() {
        ShodBackwards x = forty("");
        x.hours(8);
        Due.ride(x, 1, "w");
        Due.ride(x, 3, "w");
        Due.ride(x, 4, "w");
        Due.is("20 ahead", x.thenCell(1, 12, 1), 2);
        Due.is("13 forty", x.hours(1), 40);
        Due.is("13 three went", x.print(0, 4), 3);
        int[] who = {1, 3, 4};
        for (int i = 0; i < 3; i++) {
            Due.is("13 three came", x.print(37 + i, 4), who[i]);
        }
    }

    /** "STATE: HOUR would be above 9999": 9999 itself is none. */
    private static void lastHour() {
        ShodBackwards x = new ShodBackwards();
        for (int i = 0; i < 415; i++) {
            x.hours(24);
        }
        Due.is("13 hour 9960", x.count(1), 9960);
        x.hours(16);
        for (int n = 1; n <= 24; n++) {
            x.image();
            Due.is("13 9976 and " + n, x.hours(n), n <= 23 ? 0 : Due.STATE);
            x.restore();
        }
        Due.is("13 9999", x.hours(23), 0);
        Due.is("37 9999", x.count(1), 9999);
        Due.is("13 above", x.hours(1), Due.STATE);
        Due.is("14 above", x.draws(1), Due.STATE);
        Due.is("37 still", x.count(1), 9999);
    }

    /** "if s by 4 leaves 0", "if s is even": at each step of the longest RIDE. */
    private static void limpsByFour() {
        String[] shown = {"", "", "snnnsnnnsnnn", "", "snsnsnsnsnsn", "snnnsnnnsnnn"};
        for (int kind : new int[] {2, 4, 5}) {
            for (int step = 0; step < 12; step++) {
                ShodBackwards x = new ShodBackwards();
                x.rider(10 * kind, 21);
                for (int i = 0; i < 12; i++) {
                    x.way(0, 0);
                }
                x.set(0, 5, step);
                x.hours(1);
                Due.is("13 kind " + kind + ", step " + step, x.print(0, 1), "nesw".indexOf(shown[kind].charAt(step)));
            }
        }
    }

    private static int next(int z) {
        return z * 1103515245 + 12345;
    }

    /** "n (1 .. 24) HOURS BY DRAWS": as many draws as HOURS. */
    private static void drawsOneToDay() {
        int z = 1;
        for (int n = 1; n <= 24; n++) {
            z = next(z);
            ShodBackwards x = new ShodBackwards();
            Due.is("14 no print", x.draws(n), 0);
            Due.is("14 hours", x.count(1), n);
            Due.is("14 draws", x.count(7), z);
        }
        ShodBackwards x = new ShodBackwards();
        Due.is("14 none", x.draws(0), Due.BEYOND);
        Due.is("14 a day and one", x.draws(25), Due.BEYOND);
        Due.is("14 no draw", x.count(7), 1);
        Due.is("14 no hour", x.count(1), 0);
        x.hours(24);
        x.then(24, 0, 0);
        x.thenCell(24, 0, 0);
        Due.is("14 others draw none", x.count(7), 1);
    }

    private static int seedThatDraws(int cell) {
        for (int seed = 0; seed < 100000; seed++) {
            if ((next(seed) >>> 8) % 36 == cell) {
                return seed;
            }
        }
        return -1;
    }

    /** "an HOUR, then a draw's rest by 36: cattle tread in that CELL": what was left in that HOUR goes, too. */
    private static void drawsTreadBehindTheHour() {
        for (int cell = 0; cell < 36; cell++) {
            ShodBackwards x = new ShodBackwards();
            x.rider(0, cell);
            x.rider(0, (cell + 12) % 36);
            int way = cell < 6 ? 2 : 0;
            x.way(0, way);
            x.way(1, (cell + 12) % 36 < 6 ? 2 : 0);
            x.seed(seedThatDraws(cell));
            Due.is("14 cattle in " + cell, x.draws(1), 1);
            Due.is("14 all there", x.cellIs(cell, 1), 0);
            Due.is("14 none elsewhere", x.cellIs((cell + 12) % 36, 1), 1);
            Due.is("14 the rider stays", x.riderIs(0, 2), cell + (way == 2 ? 6 : -6));
        }
    }

    /** "all PRINTS there are gone": of each RIDER and HOUR; where there are none, none. */
    private static void drawsTreadAll() {
        ShodBackwards x = new ShodBackwards();
        x.rider(0, 14);
        x.rider(10, 14);
        x.rider(20, 13);
        Due.ride(x, 0, "ewe");
        Due.ride(x, 1, "we");
        Due.ride(x, 2, "ee");
        Due.is("14 seven", x.hours(3), 7);
        Due.is("14 there", x.cellIs(14, 1), 4);
        x.seed(seedThatDraws(35));
        Due.is("14 an empty cell", x.draws(1), 7);
        x.seed(seedThatDraws(14));
        Due.is("14 all there", x.draws(1), 3);
        int[] cells = {13, 15, 13};
        int[] who = {2, 0, 1};
        Due.is("14 none there", x.cellIs(14, 1), 0);
        Due.is("14 no latest", x.cellIs(14, 2), -1);
        for (int i = 0; i < 3; i++) {
            Due.is("16 those that stay, in order: where", x.print(i, 0), cells[i]);
            Due.is("16 those that stay, in order: whose", x.print(i, 4), who[i]);
        }
    }

    /** "each makes it z * 1103515245 + 12345 (an int), and gives z >>> 8": of any z, the least and the greatest, too. */
    private static void drawnAtTheEdges() {
        int[] seeds = {0, 1, -1, Integer.MIN_VALUE, Integer.MAX_VALUE, Due.BEYOND};
        for (int seed : seeds) {
            int z = next(seed);
            int cell = (z >>> 8) % 36;
            ShodBackwards x = new ShodBackwards();
            x.rider(0, cell);
            x.way(0, cell < 6 ? 2 : 0);
            x.rider(0, 35 - cell);
            x.way(1, 35 - cell < 6 ? 2 : 0);
            x.seed(seed);
            Due.is("14 of " + seed, x.draws(1), 1);
            Due.is("14 cell " + cell, x.cellIs(cell, 1), 0);
            Due.is("14 z", x.count(7), z);
        }
        // By a shift that keeps the sign this one would draw no CELL.
        Due.is("14 a z below 0", next(-1) < 0 ? 1 : 0, 1);
    }

    /** "likewise": how many PRINTS are SEEN, behind all HOURS and draws; PRINTS fade as by hours(). */
    private static void drawsAreHoursToo() {
        ShodBackwards x = new ShodBackwards();
        x.rider(0, 14);
        Due.ride(x, 0, "ee");
        int seed = 0;
        while (drawnIn(seed, 24, 14) || drawnIn(seed, 24, 15)) {
            seed++;
        }
        x.seed(seed);
        Due.is("14 both", x.draws(9), 2);
        Due.is("14 one faded", x.draws(1), 1);
        Due.is("14 two faded", x.draws(1), 0);
        Due.is("14 rode", x.riderIs(0, 2), 16);
    }

    private static boolean drawnIn(int seed, int draws, int cell) {
        int z = seed;
        for (int i = 0; i < draws; i++) {
            z = next(z);
            if ((z >>> 8) % 36 == cell) {
                return true;
            }
        }
        return false;
    }

    /** "z becomes v: what it was (any number)": numbers that look like ERRORS are none. */
    private static void seeds() {
        ShodBackwards x = new ShodBackwards();
        int was = 1;
        for (int v : new int[] {Integer.MIN_VALUE, Due.PARTED, Due.BEYOND, -1000000000, -1, 0, Integer.MAX_VALUE}) {
            Due.is("15 to " + v, x.seed(v), was);
            Due.is("37 z", x.count(7), v);
            was = v;
        }
        for (int k = 1; k <= 6; k++) {
            Due.is("15 no error", x.told(k), 0);
        }
    }

    /** "Of PRINT i (the oldest 0)": none at first, none behind the last. */
    private static void prints() {
        ShodBackwards x = new ShodBackwards();
        Due.is("16 none", x.print(0, 0), Due.BEYOND);
        x.rider(0, 0);
        Due.ride(x, 0, "ee");
        for (int n = 1; n <= 2; n++) {
            Due.is("16 so many", x.hours(1), n);
            Due.is("16 the oldest", x.print(0, 3), 0);
            Due.is("16 the latest", x.print(n - 1, 3), n - 1);
            Due.is("16 none behind it", x.print(n, 0), Due.BEYOND);
            Due.is("16 none ahead", x.print(-1, 0), Due.BEYOND);
        }
        x.hours(8);
        Due.is("16 the oldest has gone", x.print(0, 3), 1);
        Due.is("16 only one", x.print(1, 3), Due.BEYOND);
        x.hours(1);
        Due.is("16 none", x.print(0, 3), Due.BEYOND);
    }

    /** "(-1: none)", "(0: none)", "(99: none)": never trodden, and trodden long ago. */
    private static void emptyCell() {
        for (int cell = 0; cell < 36; cell++) {
            ShodBackwards x = new ShodBackwards();
            x.rider(0, cell);
            x.way(0, cell < 6 ? 2 : 0);
            for (int k = 0; k < 2; k++) {
                Due.is("17 ground", x.cellIs(cell, 0), 0);
                Due.is("17 none", x.cellIs(cell, 1), 0);
                Due.is("17 no latest", x.cellIs(cell, 2), -1);
                Due.is("17 no depth", x.cellIs(cell, 3), 0);
                Due.is("17 no hour", x.cellIs(cell, 4), 99);
                x.hours(1);
                Due.is("17 one of " + cell, x.cellIs(cell, 1), 1 - k);
                x.hours(9 - k);
            }
        }
    }

    /** "the greatest DEPTH (0: none)" of those that are SEEN: when the deepest has gone, the next one. */
    private static void deepestThatIsSeen() {
        ShodBackwards x = new ShodBackwards();
        x.rider(40, 14);
        x.rider(0, 14);
        x.rider(50, 14);
        x.set(0, 3, 99);
        x.set(1, 3, 30);
        Due.ride(x, 0, "e");
        x.hours(1);
        Due.is("17 the deepest", x.cellIs(14, 3), 20);
        Due.ride(x, 1, "e");
        x.hours(1);
        Due.is("17 the deepest still", x.cellIs(14, 3), 20);
        Due.ride(x, 2, "e");
        x.hours(1);
        Due.is("17 three", x.cellIs(14, 1), 3);
        x.hours(7);
        Due.is("17 two", x.cellIs(14, 1), 2);
        Due.is("17 the next one", x.cellIs(14, 3), 4);
        x.hours(1);
        Due.is("17 one", x.cellIs(14, 1), 1);
        Due.is("17 of depth 0", x.cellIs(14, 3), 0);
        Due.is("17 a print all the same", x.cellIs(14, 2), 1);
        x.hours(1);
        Due.is("17 none", x.cellIs(14, 2), -1);
    }

    /** "the latest PRINT SEEN in that CELL (of one HOUR that of the greatest number of a RIDER)". */
    private static void latestOfSeveral() {
        ShodBackwards x = new ShodBackwards();
        for (int i = 0; i < 4; i++) {
            x.rider(0, 14);
            x.way(i, i);
        }
        x.hours(1);
        Due.is("17 the greatest number", x.cellIs(14, 2), 3);
        Due.is("18 its way", x.follow(14, 0, 1, 0), 13);
        x.set(0, 2, 14);
        x.set(0, 5, 0);
        x.hours(1);
        Due.is("17 a later hour of a lesser number", x.cellIs(14, 2), 0);
        Due.is("17 hours since the latest", x.cellIs(14, 4), 1);
        Due.is("18 its way", x.follow(14, 0, 1, 0), 8);
        Due.is("18 not believing", x.follow(14, 1, 1, 0), 20);
    }

    /** "n (0 .. 40) steps", "it ends where none is SEEN". */
    private static void followNone() {
        for (int cell = 0; cell < 36; cell++) {
            ShodBackwards x = new ShodBackwards();
            for (int believing = 0; believing < 2; believing++) {
                Due.is("18 no print", x.follow(cell, believing, 40, 0), cell);
                Due.is("18 no step", x.follow(cell, believing, 40, 1), 0);
            }
        }
        ShodBackwards x = new ShodBackwards();
        x.rider(0, 14);
        x.way(0, 1);
        x.hours(1);
        Due.is("18 no steps", x.follow(14, 0, 0, 0), 14);
        Due.is("18 no steps", x.follow(14, 0, 0, 1), 0);
        Due.is("18 one", x.follow(14, 0, 1, 0), 15);
        Due.is("18 one", x.follow(14, 0, 1, 1), 1);
        Due.is("18 no print there", x.follow(14, 0, 40, 0), 15);
        Due.is("18 no print there", x.follow(14, 0, 40, 1), 1);
    }

    /** "behind n steps": round four CELLS, n 0 .. 40. */
    private static void followRound() {
        ShodBackwards x = new ShodBackwards();
        x.rider(0, 14);
        Due.ride(x, 0, "eswn");
        x.rider(10, 27);
        Due.ride(x, 1, "eswn");
        x.hours(4);
        int[] round = {14, 15, 21, 20};
        for (int n = 0; n <= 40; n++) {
            Due.is("18 behind " + n, x.follow(14, 0, n, 0), round[n % 4]);
            Due.is("18 steps of " + n, x.follow(14, 0, n, 1), n);
        }
        Due.is("18 41", x.follow(14, 0, 41, 0), Due.BEYOND);
        Due.is("18 41", x.follow(14, 0, 41, 1), Due.BEYOND);
        Due.is("18 -1", x.follow(14, 0, -1, 0), Due.BEYOND);
        Due.is("18 turned, not believed", x.follow(27, 1, 40, 1), 40);
    }

    /** "at the border": of a PRINT that shows over it, believed or not. */
    private static void followToTheBorder() {
        int[] cells = {2, 17, 33, 18};
        for (int way = 0; way < 4; way++) {
            ShodBackwards x = new ShodBackwards();
            x.rider(0, cells[way]);
            x.way(0, (way + 2) % 4);
            x.hours(1);
            Due.is("18 not believed over the border", x.follow(cells[way], 1, 40, 0), cells[way]);
            Due.is("18 no step", x.follow(cells[way], 1, 40, 1), 0);
            ShodBackwards y = new ShodBackwards();
            y.rider(10, cells[way]);
            y.way(0, (way + 2) % 4);
            y.hours(1);
            Due.is("18 believed over the border", y.follow(cells[way], 0, 40, 0), cells[way]);
            Due.is("18 no step", y.follow(cells[way], 0, 40, 1), 0);
            Due.is("18 not believed", y.follow(cells[way], 1, 40, 1), 1);
        }
    }

    /** "SEEN": what has faded leads nowhere. */
    private static void followFadedPrints() {
        ShodBackwards x = new ShodBackwards();
        x.ground(15, 1);
        x.rider(0, 14);
        Due.ride(x, 0, "eee");
        x.hours(5);
        Due.is("18 all the way", x.follow(14, 0, 40, 0), 17);
        x.hours(1);
        Due.is("18 up to where it has faded", x.follow(14, 0, 40, 0), 15);
        Due.is("18 behind it", x.follow(16, 0, 40, 0), 17);
        x.hours(4);
        Due.is("18 no more", x.follow(14, 0, 40, 0), 14);
    }
}
