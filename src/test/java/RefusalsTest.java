import java.util.Arrays;

/**
 * Every number that is too small or too large, by one and by far, is refused, and the one beside it is not;
 * ERRORS come in the order in which they are asked; an act that answers one changes nothing but what told() tells.
 */
public final class RefusalsTest {
    private static final int ANY = Integer.MIN_VALUE;
    private static final int LARGE = Integer.MAX_VALUE;

    public static void main(String[] args) {
        moor();
        texts();
        hours();
        ahead();
        sheets();
        nones();
        others();
        full();
        late();
        orders();
        faultIsNoError();
        readersChangeNothing();
        Due.end();
    }

    /** On one of two objects a call is refused; both are alike then. */
    private static void refused(int error, String act, int... a) {
        Twins twins = Twins.busy();
        String label = act + " " + Arrays.toString(a);
        Due.is(label, Face.call(twins.x, act, '1', a), error);
        twins.toldApart(label, error);
        twins.alike(label);
    }

    private static int[] with(int[] good, int i, int v) {
        int[] a = good.clone();
        a[i] = v;
        return a;
    }

    /**
     * Numbers that an act takes, and by turns the least and the greatest that each of them may be; where these are
     * alike, or any number does, nothing is refused here.
     */
    private static void edges(String act, int[] good, int... ends) {
        for (int i = 0; i < good.length; i++) {
            int least = ends[2 * i];
            int greatest = ends[2 * i + 1];
            for (int v : new int[] {least, greatest, good[i]}) {
                int[] a = with(good, i, v);
                int answer = Face.call(Twins.makeBusy(), act, '1', a);
                Due.is(act + " takes " + Arrays.toString(a), answer == Due.BEYOND ? 1 : 0, 0);
            }
            if (least == ANY || least == greatest) {
                continue;
            }
            for (int v : new int[] {least - 1, greatest + 1, Integer.MIN_VALUE, LARGE}) {
                refused(Due.BEYOND, act, with(good, i, v));
            }
        }
    }

    private static int[] row(int... numbers) {
        return numbers;
    }

    /** Promises 2 to 9; the busy one has RIDERS 0 .. 2, and RIDER 0 has five WAYS. */
    private static void moor() {
        edges("ground", row(7, 2), 0, 35, 0, 3);
        edges("frost", row(7), 0, 9);
        edges("rider", row(36, 8), 0, 69, 0, 35);
        edges("riderIs", row(1, 7), 0, 2, 0, 19);
        edges("as", row(1, 0), 0, 2, 0, 6);
        int[] most = {6, 9, 35, 99};
        for (int what = 0; what < 4; what++) {
            edges("set", row(0, what, 1), 0, 2, what, what, 0, most[what]);
        }
        edges("set", row(0, 5, 1), 0, 2, 5, 5, 0, 5);
        edges("set", row(1, 5, 0), 0, 2, 5, 5, 0, 2);
        for (int what : new int[] {-1, 4, 6, 7, 8, 19, 20, Integer.MIN_VALUE, LARGE}) {
            refused(Due.BEYOND, "set", 0, what, 0);
            refused(Due.BEYOND, "set", 0, what, 1);
        }
        edges("way", row(1, 2), 0, 2, 0, 3);
        edges("halt", row(2), 0, 2);
    }

    private static void texts() {
        edges("feed", row(3), 1, 8);
        edges("text", row(1), 0, 1);
        edges("untell", row(1), 0, 1);
    }

    private static void hours() {
        int prints = Twins.makeBusy().count(3);
        edges("hours", row(2), 1, 24);
        edges("draws", row(2), 1, 24);
        edges("seed", row(2), ANY, LARGE);
        edges("print", row(0, 2), 0, prints - 1, 0, 4);
        edges("cellIs", row(7, 2), 0, 35, 0, 4);
        edges("follow", row(7, 1, 9, 1), 0, 35, 0, 1, 0, 40, 0, 1);
        Due.is("16 there are prints", prints > 3 ? 1 : 0, 1);
    }

    private static void ahead() {
        edges("then", row(3, 1, 2), 0, 24, 0, 2, 0, 19);
        edges("thenCell", row(3, 7, 2), 0, 24, 0, 35, 0, 4);
        edges("loads", row(5, 22, 1), 0, 99, 0, 59, 0, 1);
        edges("kinds", row(1, 21, 0), 0, 2, 0, 35, 0, 4);
        edges("leastFound", row(1, 4), 0, 2, 1, 12);
        edges("decoy", row(1, 4, 21), 0, 2, 1, 12, 0, 35);
        edges("rest", row(0, 0), 0, 3, 0, 4);
        refused(Due.BEYOND, "rest", 1, 5);
    }

    private static void sheets() {
        edges("voice", row(1, 2, 9), 0, 2, 0, 3, ANY, LARGE);
        edges("put", row(0, 2, 9), 0, 3, 0, 4, ANY, LARGE);
        edges("put", row(2, 2, 9), 0, 3, 0, 2, ANY, LARGE);
        edges("ways", row(0, 1), 0, 3, 0, 2);
        edges("judge", row(2, 1), 0, 3, 0, 2);
        edges("tell", row(1), ANY, LARGE);
        edges("count", row(1), 0, 7);
        edges("told", row(1), 1, 6);
        sheet();
        move();
    }

    private static void sheet() {
        for (int sheet : new int[] {-1, 4, Integer.MIN_VALUE, LARGE}) {
            refused(Due.BEYOND, "sheet", sheet, 8, 4);
            refused(Due.BEYOND, "sheet", sheet, 0, 4);
        }
        for (int bits : new int[] {-1, 1, 7, 9, 15, 17, 24, 31, 33, 64, -8, Integer.MIN_VALUE, LARGE}) {
            refused(Due.BEYOND, "sheet", 0, bits, 4);
        }
        for (int bits : new int[] {8, 16, 32}) {
            for (int sheet = 0; sheet < 4; sheet++) {
                refused(Due.STATE, "sheet", sheet, bits, -1);
                refused(Due.STATE, "sheet", sheet, bits, Integer.MIN_VALUE);
                refused(Due.BEYOND, "sheet", sheet, bits, 25);
                refused(Due.BEYOND, "sheet", sheet, bits, LARGE);
            }
        }
    }

    /** SHEET 0 has five numbers of 8 bits. */
    private static void move() {
        for (int bad : new int[] {-1, 4, Integer.MIN_VALUE, LARGE}) {
            refused(Due.BEYOND, "move", bad, 0, 0, 0, 1);
            refused(Due.BEYOND, "move", 0, 0, bad, 0, 1);
        }
        int[][] off = {{-1, 0, 1}, {0, -1, 1}, {0, 0, -1}, {0, 0, 6}, {1, 0, 5}, {0, 1, 5}, {5, 0, 1}, {0, 5, 1},
            {6, 0, 0}, {0, 6, 0}, {-1, 0, 0}, {0, -1, 0}, {LARGE, 0, LARGE}, {2, 2, LARGE}, {LARGE, LARGE, 2},
            {Integer.MIN_VALUE, 0, 1}, {0, 0, Integer.MIN_VALUE}, {5, 5, Integer.MIN_VALUE}};
        for (int[] o : off) {
            refused(Due.BEYOND, "move", 0, o[0], 0, o[1], o[2]);
        }
    }

    private static void nones() {
        refused(Due.NONE, "loads", 0, 0, 0);
        refused(Due.NONE, "loads", 99, 40, 1);
        refused(Due.NONE, "rest", 3, 0);
        refused(Due.NONE, "rest", 2, 0);
        refused(Due.NONE, "put", 3, 0, 1);
        refused(Due.NONE, "move", 3, 0, 0, 0, 1);
        refused(Due.NONE, "move", 0, 0, 3, 0, 1);
        refused(Due.NONE, "ways", 3, 0);
        refused(Due.NONE, "judge", 3, 0);
        for (int i : new int[] {-1, Twins.makeBusy().count(6), 29, 30, Integer.MIN_VALUE, LARGE}) {
            refused(Due.NONE, "body", i);
        }
        Twins twins = Twins.busy();
        // Two SHEETS are missing now, so that nothing tells one that is from one that isn't but NONE.
        Due.is("28 missing", twins.x.sheet(0, 0, 9), 1);
        Due.is("28 missing", twins.y.sheet(0, 0, 9), 1);
        Due.is("30 both missing", twins.x.move(0, 0, 3, 0, 0), Due.NONE);
        twins.toldApart("30 both missing", Due.NONE);
        twins.alike("30 both missing");
        noImage();
        plainHasNoOdds();
    }

    private static void noImage() {
        Twins twins = Twins.full();
        Due.is("34 none", twins.x.restore(), Due.NONE);
        twins.toldApart("34 none", Due.NONE);
        twins.alike("34 none");
    }

    private static void plainHasNoOdds() {
        for (int what = 1; what <= 2; what++) {
            Twins twins = Twins.busy();
            Due.is("25 plain", twins.x.rest(0, 0), 1);
            Due.is("25 no odds " + what, twins.x.rest(0, what), Due.NONE);
            twins.toldApart("25 no odds", Due.NONE);
            twins.alike("25 no odds");
        }
    }

    /** KIND and PARTED. */
    private static void others() {
        refused(Due.KIND, "as", 0, 1);
        refused(Due.KIND, "as", 1, 4);
        refused(Due.KIND, "as", 2, 5);
        refused(Due.KIND, "move", 0, 0, 1, 0, 1);
        refused(Due.KIND, "move", 1, 0, 2, 0, 0);
        refused(Due.KIND, "move", 2, 0, 0, 0, 1);
        refused(Due.PARTED, "voice", 2, 3, 7);
    }

    private static void full() {
        for (String act : new String[] {"rider 0 0", "rider 69 35", "way 0 0", "way 0 3", "feed 1", "feed 8",
            "tell 0", "tell -1"}) {
            String[] parts = act.split(" ");
            int[] a = Arrays.stream(parts).skip(1).mapToInt(Integer::parseInt).toArray();
            Twins twins = Twins.full();
            Due.is(act + " of what is full", Face.call(twins.x, parts[0], '1', a), Due.FULL);
            twins.toldApart(act, Due.FULL);
            twins.alike(act);
        }
    }

    private static void late() {
        for (String act : new String[] {"hours", "draws"}) {
            for (int n : new int[] {1, 24}) {
                Twins twins = Twins.late();
                Due.is("the latest hour", twins.x.count(1) + twins.y.count(1), 2 * 9999);
                Due.is(act + " " + n + " above 9999", Face.call(twins.x, act, 0, n), Due.STATE);
                twins.toldApart(act, Due.STATE);
                twins.moorAlike(act);
            }
        }
    }

    /** Two numbers are wrong, or one is while all is full: the ERROR that is asked first. */
    private static void orders() {
        ShodBackwards x = Twins.makeFull();
        Due.is("4 beyond ahead of full", x.rider(70, 0), Due.BEYOND);
        Due.is("4 beyond ahead of full", x.rider(0, 36), Due.BEYOND);
        Due.is("8 beyond ahead of full", x.way(0, 4), Due.BEYOND);
        Due.is("8 beyond ahead of full", x.way(5, 0), Due.BEYOND);
        Due.is("10 beyond ahead of full", x.feed(0L, 0), Due.BEYOND);
        Due.is("10 beyond ahead of full", x.feed(0L, 9), Due.BEYOND);
        ShodBackwards late = Twins.makeLate();
        for (int n : new int[] {0, -1, 25, LARGE}) {
            Due.is("13 beyond ahead of state", late.hours(n), Due.BEYOND);
            Due.is("14 beyond ahead of state", late.draws(n), Due.BEYOND);
        }
        refused(Due.BEYOND, "as", 3, 1);
        refused(Due.BEYOND, "as", 0, 7);
        refused(Due.BEYOND, "loads", 99, 60, 0);
        refused(Due.BEYOND, "loads", 99, 0, 2);
        refused(Due.BEYOND, "rest", 3, 5);
        refused(Due.BEYOND, "rest", 2, -1);
        refused(Due.BEYOND, "voice", 2, 4, 7);
        refused(Due.BEYOND, "voice", 3, 3, 7);
        refused(Due.BEYOND, "sheet", 4, 8, -1);
        refused(Due.BEYOND, "sheet", 0, 7, -1);
        refused(Due.NONE, "put", 3, -1, 7);
        refused(Due.BEYOND, "move", 3, 0, 4, 0, 1);
        refused(Due.BEYOND, "move", 4, 0, 3, 0, 1);
        refused(Due.NONE, "move", 3, -1, 0, 0, 1);
        refused(Due.NONE, "move", 0, 0, 3, 0, -1);
        refused(Due.KIND, "move", 0, -1, 1, 0, 1);
        refused(Due.KIND, "move", 0, 0, 1, 0, 25);
        refused(Due.BEYOND, "ways", 3, 3);
        refused(Due.BEYOND, "judge", 3, 3);
        gainsAheadOfOdds();
    }

    /** Missing numbers are asked ahead of those that are too large, and these ahead of odds that there are not. */
    private static void gainsAheadOfOdds() {
        ShodBackwards x = new ShodBackwards();
        Due.sheet(x, 0, 32, 1000, 1000, 1000);
        Due.is("25 none ahead of beyond", x.rest(0, 1), Due.NONE);
        Due.sheet(x, 0, 32, 1000, 1000, 1000, 1000);
        Due.is("25 beyond ahead of no odds", x.rest(0, 1), Due.BEYOND);
        Due.is("25 beyond ahead of no odds", x.rest(0, 2), Due.BEYOND);
    }

    private static void faultIsNoError() {
        for (int use = 0; use < 2; use++) {
            Twins twins = Twins.busy();
            Due.feed(twins.x, "+");
            Due.is("11 a fault", twins.x.text(use), -14);
            twins.toldApart("11 a fault", 0);
            Due.is("11 the tape is empty, too", twins.x.count(4), 0);
            Due.feed(twins.x, "1+2");
            twins.alike("11 a fault, but for the tape");
        }
    }

    /** Acts that tell something, and those of what would be, leave all as it is. */
    private static void readersChangeNothing() {
        String[] readers = {"riderIs 0 7", "as 2 2", "print 0 0", "cellIs 14 4", "follow 21 1 40 0", "then 24 0 2",
            "thenCell 24 14 4", "loads 5 0 0", "kinds 1 21 0", "leastFound 0 12", "leastFound 1 1", "decoy 0 12 7",
            "rest 1 1", "body 0", "judge 2 1", "count 3", "told 1"};
        for (String reader : readers) {
            String[] parts = reader.split(" ");
            int[] a = Arrays.stream(parts).skip(1).mapToInt(Integer::parseInt).toArray();
            Twins twins = Twins.busy();
            int answer = Face.call(twins.x, parts[0], 0, a);
            Due.is(reader + " answers", answer >= -1 ? 1 : 0, 1);
            Due.is(reader + " answers alike", Face.call(twins.x, parts[0], 0, a), answer);
            twins.toldApart(reader, 0);
            twins.alike(reader);
        }
    }
}
