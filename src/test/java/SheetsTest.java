/** Promises 28 to 32: SHEETS. */
public final class SheetsTest {
    public static void main(String[] args) {
        sheet();
        put();
        move();
        moveRefuses();
        ways();
        judge();
        Due.end();
    }

    /** What stands at a place of a SHEET of 32 bits, through rest(): plain, if all four are alike. */
    private static int at(ShodBackwards x, int sheet, int bits, int i) {
        x.sheet(3, bits, 4);
        for (int j = 0; j < 4; j++) {
            x.move(sheet, i, 3, j, 1);
        }
        return x.rest(3, 3);
    }

    private static void sheet() {
        ShodBackwards x = new ShodBackwards();
        for (int n : new int[] {Integer.MIN_VALUE, -1, 0, 25, Integer.MAX_VALUE}) {
            Due.is("28 sheet 4", x.sheet(4, 8, n), Due.BEYOND);
            Due.is("28 sheet -1", x.sheet(-1, 8, n), Due.BEYOND);
            Due.is("28 bits 7", x.sheet(0, 7, n), Due.BEYOND);
            Due.is("28 bits 64", x.sheet(0, 64, n), Due.BEYOND);
            Due.is("28 bits -8", x.sheet(0, -8, n), Due.BEYOND);
            Due.is("28 bits 0", x.sheet(0, 0, n), 1);
        }
        for (int b : new int[] {8, 16, 32}) {
            sheetOf(b);
        }
    }

    private static void sheetOf(int b) {
        ShodBackwards x = new ShodBackwards();
        Due.is("28 n -1", x.sheet(0, b, -1), Due.STATE);
        Due.is("28 n least", x.sheet(0, b, Integer.MIN_VALUE), Due.STATE);
        Due.is("28 n 25", x.sheet(0, b, 25), Due.BEYOND);
        Due.is("28 n greatest", x.sheet(0, b, Integer.MAX_VALUE), Due.BEYOND);
        Due.is("28 still missing", x.put(0, 0, 0), Due.NONE);
        Due.is("28 none", x.sheet(0, b, 0), 1);
        Due.is("28 no number", x.put(0, 0, 0), Due.BEYOND);
        Due.is("28 all", x.sheet(0, b, 24), 1);
        Due.is("28 number 23", x.put(0, 23, 9), 1);
        Due.is("28 number 24", x.put(0, 24, 9), Due.BEYOND);
        Due.is("28 unchanged", x.sheet(0, b, -1), Due.STATE);
        Due.is("28 number 23", at(x, 0, b, 23), 9);
        for (int i = 0; i < 24; i++) {
            x.put(0, i, 9);
        }
        Due.is("28 anew", x.sheet(0, b, 24), 1);
        for (int i = 0; i < 24; i++) {
            Due.is("28 all 0", at(x, 0, b, i), 0);
        }
        Due.is("28 missing again", x.sheet(0, 0, 5), 1);
        Due.is("28 missing", x.put(0, 0, 0), Due.NONE);
    }

    private static void put() {
        ShodBackwards x = new ShodBackwards();
        Due.is("29 sheet 4", x.put(4, 0, 0), Due.BEYOND);
        Due.is("29 sheet -1", x.put(-1, 0, 0), Due.BEYOND);
        Due.is("29 missing ahead of number", x.put(0, -1, 0), Due.NONE);
        int[] bits = {8, 16, 32};
        int[][] puts = {{300, 44}, {200, -56}, {65535, -1}, {-1, -1}, {-129, 127}, {0x12340005, 5}};
        int[][] as16 = {{300, 300}, {65536 - 77, -77}, {0x7fff0010, 16}, {-65536, 0}};
        int[][] as32 = {{300, 300}, {-999, -999}, {999, 999}};
        int[][][] all = {puts, as16, as32};
        for (int b = 0; b < 3; b++) {
            x.sheet(0, bits[b], 3);
            for (int[] p : all[b]) {
                Due.is("29 put", x.put(0, 1, p[0]), 1);
                Due.is("29 lowest bits of " + bits[b], at(x, 0, bits[b], 1), p[1]);
                Due.is("29 ahead", at(x, 0, bits[b], 0), 0);
                Due.is("29 behind", at(x, 0, bits[b], 2), 0);
            }
        }
        for (int i : new int[] {Integer.MIN_VALUE, -1, 3, Integer.MAX_VALUE}) {
            Due.is("29 number " + i, x.put(0, i, 1), Due.BEYOND);
        }
        Due.sheet(x, 1, 32, 40000, 0, 0, 0);
        Due.is("29 whole", x.rest(1, 0), Due.BEYOND);
    }

    private static void move() {
        ShodBackwards x = new ShodBackwards();
        Due.sheet(x, 0, 16, 1, 2, 3, 4, 5);
        Due.is("30 up", x.move(0, 0, 0, 1, 4), 4);
        int[] up = {1, 1, 2, 3, 4};
        for (int i = 0; i < 5; i++) {
            Due.is("30 as they all were", at(x, 0, 16, i), up[i]);
        }
        Due.sheet(x, 0, 16, 1, 2, 3, 4, 5);
        Due.is("30 down", x.move(0, 2, 0, 0, 3), 3);
        int[] down = {3, 4, 5, 4, 5};
        for (int i = 0; i < 5; i++) {
            Due.is("30 as they all were", at(x, 0, 16, i), down[i]);
        }
        Due.sheet(x, 1, 16, 9, 9);
        Due.is("30 to another", x.move(0, 1, 1, 0, 2), 2);
        Due.is("30 first", at(x, 1, 16, 0), 4);
        Due.is("30 second", at(x, 1, 16, 1), 5);
        Due.is("30 stays", at(x, 0, 16, 1), 4);
        Due.is("30 none", x.move(0, 5, 1, 2, 0), 0);
    }

    private static void moveRefuses() {
        ShodBackwards x = new ShodBackwards();
        Due.sheet(x, 0, 8, 1, 2, 3);
        Due.sheet(x, 1, 16, 1, 2, 3);
        Due.is("30 sheet 4", x.move(4, 0, 0, 0, 1), Due.BEYOND);
        Due.is("30 sheet -1", x.move(-1, 0, 0, 0, 1), Due.BEYOND);
        Due.is("30 other 4", x.move(0, 0, 4, 0, 1), Due.BEYOND);
        Due.is("30 other -1", x.move(2, 0, -1, 0, 1), Due.BEYOND);
        Due.is("30 missing", x.move(2, -1, 0, 0, 1), Due.NONE);
        Due.is("30 other missing", x.move(0, 0, 2, 0, -1), Due.NONE);
        Due.is("30 both missing", x.move(2, 0, 2, 0, 0), Due.NONE);
        Due.is("30 unlike", x.move(0, -1, 1, 0, 1), Due.KIND);
        int[][] bad = {{-1, 0, 1}, {0, -1, 1}, {0, 0, -1}, {0, 0, 4}, {1, 0, 3}, {0, 1, 3}, {3, 0, 1}, {0, 3, 1},
            {4, 0, 0}, {0, 4, 0}, {Integer.MAX_VALUE, 0, 1}, {0, Integer.MAX_VALUE, Integer.MAX_VALUE},
            {1, 1, Integer.MAX_VALUE}, {Integer.MIN_VALUE, 0, Integer.MIN_VALUE}};
        for (int[] b : bad) {
            Due.is("30 they don't stand there", x.move(0, b[0], 0, b[1], b[2]), Due.BEYOND);
        }
        Due.is("30 unchanged", at(x, 0, 8, 0), 1);
        Due.is("30 unchanged", at(x, 0, 8, 2), 3);
    }

    private static void ways() {
        ShodBackwards x = new ShodBackwards();
        x.rider(0, 0);
        Due.is("31 sheet 4", x.ways(4, 0), Due.BEYOND);
        Due.is("31 sheet -1", x.ways(-1, 0), Due.BEYOND);
        Due.is("31 rider 1", x.ways(0, 1), Due.BEYOND);
        Due.is("31 rider -1", x.ways(0, -1), Due.BEYOND);
        Due.is("31 missing", x.ways(0, 0), Due.NONE);
        x.sheet(0, 8, 0);
        Due.is("31 empty", x.ways(0, 0), 0);
        Due.sheet(x, 0, 8, 3, 2, 1, 0);
        Due.is("31 all", x.ways(0, 0), 4);
        Due.is("31 ride", x.riderIs(0, 4), 4);
        Due.is("31 first", x.riderIs(0, 8), 3);
        Due.is("31 last", x.riderIs(0, 11), 0);
        Due.sheet(x, 0, 8, 2, 2, -1, 2);
        Due.is("31 up to -1", x.ways(0, 0), 2);
        Due.is("31 ride", x.riderIs(0, 4), 6);
        Due.sheet(x, 0, 32, 4, 2);
        Due.is("31 up to 4", x.ways(0, 0), 0);
        Due.sheet(x, 0, 16, 1, 1, 1, 1, 1, 1, 1, 1);
        Due.is("31 up to a full ride", x.ways(0, 0), 6);
        Due.is("31 ride", x.riderIs(0, 4), 12);
        Due.is("31 none", x.ways(0, 0), 0);
        Due.is("31 no error", x.told(4), 0);
        Due.is("31 errors", x.told(1), 4);
    }

    private static void judge() {
        ShodBackwards x = new ShodBackwards();
        x.rider(0, 35);
        x.rider(0, 7);
        Due.is("32 sheet 4", x.judge(4, 0), Due.BEYOND);
        Due.is("32 sheet -1", x.judge(-1, 0), Due.BEYOND);
        Due.is("32 rider 2", x.judge(0, 2), Due.BEYOND);
        Due.is("32 rider -1", x.judge(0, -1), Due.BEYOND);
        Due.is("32 missing", x.judge(0, 0), Due.NONE);
        x.sheet(0, 8, 0);
        Due.is("32 empty", x.judge(0, 0), 0);
        Due.ride(x, 1, "nnws");
        Due.sheet(x, 0, 8, 7, 1, 1, 0, 6, 6, 6, 6, 6, 6, 6, 6, 6, 6, 6, 6, 6, 6, 6, 6, 6, 6, 6, 6);
        Due.is("32 all", x.judge(0, 1), 24);
        Due.is("32 another rider", x.judge(0, 0), 0);
        x.put(0, 23, 7);
        Due.is("32 the last", x.judge(0, 1), 23);
        x.put(0, 2, -1);
        Due.is("32 the first that isn't so", x.judge(0, 1), 2);
        x.put(0, 0, 8);
        Due.is("32 now", x.judge(0, 1), 0);
        Due.is("32 nothing has changed", x.riderIs(1, 2), 7);
        Due.is("32 no hour", x.count(1), 0);
    }
}
