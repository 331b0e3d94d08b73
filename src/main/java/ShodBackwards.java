/**
 * Smugglers ride over a moor on horses whose shoes may point the wrong way; hunters follow the prints.
 * The numbered promises that this class keeps are in ../shared/DOC.md.
 */
public final class ShodBackwards {

    private static final int LOW = -1000000000;
    private static final int BEYOND = 1;
    private static final int NONE = 2;
    private static final int STATE = 3;
    private static final int FULL = 4;
    private static final int UNLIKE = 5;
    private static final int PARTED = 6;
    private static final int ERRORS = 6;

    private static final int SIDE = 6;
    private static final int CELLS = 36;
    private static final int LAST_HOUR = 9999;
    private static final int DAY = 24;
    private static final int HALF_DAY = 12;
    private static final int MOST_FROST = 9;
    private static final int MOST_LOAD = 99;
    private static final int MOST_DEPTH = 99;
    private static final int MOST_DOUBT = 99;
    private static final int NEVER = 99;

    private static final int PEAT = 0;
    private static final int GRASS = 1;
    private static final int ROCK = 2;
    private static final int STREAM = 3;

    private static final int NORTH = 0;
    private static final int EAST = 1;
    private static final int SOUTH = 2;
    private static final int WEST = 3;

    private static final int MOST_RIDERS = 5;
    private static final int MOST_WAYS = 12;
    private static final int RIDER = 0;
    private static final int TURNED = 1;
    private static final int LAME = 2;
    private static final int WALKER = 3;
    private static final int DOUBLED = 4;
    private static final int SLEDGE = 5;
    private static final int TOLD = 6;
    private static final int KINDS = 7;
    /** The KIND above each KIND. */
    private static final int[] ABOVE = {-1, RIDER, RIDER, RIDER, TURNED, LAME, RIDER};

    private static final int MOST_PRINTS = 40;
    private static final int P_CELL = 0;
    private static final int P_SHOWN = 1;
    private static final int P_DEPTH = 2;
    private static final int P_HOUR = 3;
    private static final int P_RIDER = 4;
    private static final int P_WIDE = 5;

    private static final int MOST_STEPS = 40;
    private static final int BELIEVING = 0;

    private static final int SHOES = 0;
    private static final int DOUBT = 1;
    private static final int USES = 2;
    private static final int MOST_NAMES = 4;
    private static final int MOST_BYTES = 60;
    private static final int MOST_DIGITS = 4;
    private static final int MOST_OPEN = 5;
    private static final int COMPARING = 2;
    private static final int TIMES = 4;

    private static final int RIDES = 0;
    private static final int SHOWS = 1;
    private static final int SINKS = 2;
    private static final int PARTS = 3;
    private static final int VOICES = 4;
    private static final int MOST_BODIES = 30;
    private static final int DEEPEST = 40;
    /** The BODY that each KIND has of each VOICE; 0: none of its own. */
    private static final int[] BODIES = {
        10, 11, 12, 13,
        20, 0, 0, 21,
        0, 30, 0, 0,
        0, 0, 40, 0,
        50, 0, 51, 0,
        0, 60, 0, 0,
        70, 71, 0, 0};

    private static final int SHEETS = 4;
    private static final int MOST_NUMBERS = 24;
    private static final int BARGAIN = 4;
    private static final int MOST_GAIN = 999;
    private static final int MOST_WAITING = 24;

    private final Moor now = new Moor();
    private final Moor ahead = new Moor();
    private final Desk desk = new Desk();
    private final Moor keptMoor = new Moor();
    private final Desk keptDesk = new Desk();
    private int imagesMade;
    private final Reader reader = new Reader();
    private final Speaker speaker = new Speaker();
    private final Bargain bargain = new Bargain();
    private final Sheet[] sheets = new Sheet[SHEETS];
    private final int[] errors = new int[ERRORS + 1];

    public ShodBackwards() {
        for (int i = 0; i < SHEETS; i++) {
            sheets[i] = new Sheet();
        }
    }

    // ---- the moor, riders

    public int ground(int cell, int v) {
        if (!isCell(cell) || !within(v, PEAT, STREAM)) {
            return refuse(BEYOND);
        }
        int was = now.soil[cell];
        now.soil[cell] = v;
        now.fade();
        return was;
    }

    public int frost(int v) {
        if (!within(v, 0, MOST_FROST)) {
            return refuse(BEYOND);
        }
        int was = now.frost;
        now.frost = v;
        now.fade();
        return was;
    }

    public int rider(int km, int cell) {
        if (!within(km, 0, KINDS * 10 - 1) || !isCell(cell)) {
            return refuse(BEYOND);
        }
        if (now.riderCount >= MOST_RIDERS) {
            return refuse(FULL);
        }
        now.riders[now.riderCount].begin(km / 10, km % 10, cell);
        return now.riderCount++;
    }

    public int riderIs(int rider, int what) {
        if (!isRider(rider) || !isRiderFact(what)) {
            return refuse(BEYOND);
        }
        return now.riderFact(rider, what);
    }

    public int as(int rider, int kind) {
        if (!isRider(rider) || !within(kind, 0, KINDS - 1)) {
            return refuse(BEYOND);
        }
        if (!isOrUnder(now.riders[rider].kind, kind)) {
            return refuse(UNLIKE);
        }
        return now.riders[rider].load;
    }

    public int set(int rider, int what, int v) {
        if (!isRider(rider)) {
            return refuse(BEYOND);
        }
        Rider one = now.riders[rider];
        if (!within(v, 0, one.greatest(what))) {
            return refuse(BEYOND);
        }
        return one.change(what, v);
    }

    public int way(int rider, int way) {
        if (!isRider(rider) || !within(way, NORTH, WEST)) {
            return refuse(BEYOND);
        }
        if (!now.riders[rider].addWay(way)) {
            return refuse(FULL);
        }
        return now.riders[rider].length;
    }

    public int halt(int rider) {
        if (!isRider(rider)) {
            return refuse(BEYOND);
        }
        Rider one = now.riders[rider];
        int had = one.length;
        one.length = 0;
        one.step = 0;
        return had;
    }

    // ---- texts

    public int feed(long word, int n) {
        if (!within(n, 1, 8)) {
            return refuse(BEYOND);
        }
        if (desk.tapeLength > MOST_BYTES - n) {
            return refuse(FULL);
        }
        for (int i = 0; i < n; i++) {
            desk.tape[desk.tapeLength] = (int) (word >>> (8 * i)) & 255;
            desk.tapeLength++;
        }
        return desk.tapeLength;
    }

    public int text(int use) {
        if (!isUse(use)) {
            return refuse(BEYOND);
        }
        boolean isText = reader.read(desk.tape, desk.tapeLength, use == SHOES ? "wsmg" : "nda");
        desk.tapeLength = 0;
        if (!isText) {
            return -10 - reader.at;
        }
        now.texts[use] = reader.made();
        return 1;
    }

    public int untell(int use) {
        if (!isUse(use)) {
            return refuse(BEYOND);
        }
        int had = now.texts[use] == null ? 0 : 1;
        now.texts[use] = null;
        return had;
    }

    // ---- hours, prints

    public int hours(int n) {
        if (!within(n, 1, DAY)) {
            return refuse(BEYOND);
        }
        if (now.hour > LAST_HOUR - n) {
            return refuse(STATE);
        }
        now.passHours(n);
        return now.printCount;
    }

    public int draws(int n) {
        if (!within(n, 1, DAY)) {
            return refuse(BEYOND);
        }
        if (now.hour > LAST_HOUR - n) {
            return refuse(STATE);
        }
        for (int i = 0; i < n; i++) {
            now.passHour();
            now.tread(desk.drawn() % CELLS);
        }
        return now.printCount;
    }

    public int seed(int v) {
        int was = desk.z;
        desk.z = v;
        return was;
    }

    public int print(int i, int what) {
        if (!within(i, 0, now.printCount - 1) || !within(what, P_CELL, P_RIDER)) {
            return refuse(BEYOND);
        }
        return now.prints[i * P_WIDE + what];
    }

    public int cellIs(int cell, int what) {
        if (!isCell(cell) || !isCellFact(what)) {
            return refuse(BEYOND);
        }
        return now.cellFact(cell, what);
    }

    public int follow(int cell, int believing, int n, int what) {
        if (!isCell(cell) || !within(believing, 0, 1)) {
            return refuse(BEYOND);
        }
        if (!within(n, 0, MOST_STEPS) || !within(what, 0, 1)) {
            return refuse(BEYOND);
        }
        return now.trail(cell, believing, n, what);
    }

    // ---- what would be

    public int then(int n, int rider, int what) {
        if (!within(n, 0, DAY) || !isRider(rider) || !isRiderFact(what)) {
            return refuse(BEYOND);
        }
        lookAhead(n);
        return ahead.riderFact(rider, what);
    }

    public int thenCell(int n, int cell, int what) {
        if (!within(n, 0, DAY) || !isCell(cell) || !isCellFact(what)) {
            return refuse(BEYOND);
        }
        lookAhead(n);
        return ahead.cellFact(cell, what);
    }

    public int loads(int depth, int km, int what) {
        if (!within(depth, 0, MOST_DEPTH) || !within(km, 0, TOLD * 10 - 1) || !within(what, 0, 1)) {
            return refuse(BEYOND);
        }
        int least = -1;
        int greatest = -1;
        for (int load = 0; load <= MOST_LOAD; load++) {
            if (depthOf(km / 10, km % 10, load) == depth) {
                least = least < 0 ? load : least;
                greatest = load;
            }
        }
        if (least < 0) {
            return refuse(NONE);
        }
        return what == 0 ? least : greatest;
    }

    public int kinds(int rider, int cell, int h) {
        if (!isRider(rider) || !isCell(cell) || !within(h, 0, now.hour)) {
            return refuse(BEYOND);
        }
        int fitting = 0;
        for (int kind = RIDER; kind < TOLD; kind++) {
            if (now.wouldLeaveAll(rider, kind, cell, h)) {
                fitting |= 1 << kind;
            }
        }
        return fitting;
    }

    public int leastFound(int rider, int n) {
        if (!isRider(rider) || !within(n, 1, HALF_DAY)) {
            return refuse(BEYOND);
        }
        int from = now.riders[rider].cell;
        int best = RIDER;
        int farthest = -1;
        for (int kind = RIDER; kind < TOLD; kind++) {
            ahead.copyFrom(now);
            ahead.riders[rider].kind = kind;
            ahead.passHours(n);
            int distance = far(ahead.trail(from, BELIEVING, MOST_STEPS, 0), ahead.riders[rider].cell);
            if (distance > farthest) {
                farthest = distance;
                best = kind;
            }
        }
        return best;
    }

    public int decoy(int rider, int n, int cell) {
        if (!isRider(rider) || !within(n, 1, HALF_DAY) || !isCell(cell)) {
            return refuse(BEYOND);
        }
        lookAhead(n);
        int riding = ahead.trail(cell, BELIEVING, MOST_STEPS, 0);
        ahead.copyFrom(now);
        ahead.riders[rider].step = ahead.riders[rider].length;
        ahead.passHours(n);
        int staying = ahead.trail(cell, BELIEVING, MOST_STEPS, 0);
        return far(riding, staying);
    }

    public int rest(int sheet, int what) {
        if (!isSheet(sheet) || !within(what, 0, 4)) {
            return refuse(BEYOND);
        }
        Sheet asked = sheets[sheet];
        if (asked.isMissing() || asked.size < BARGAIN) {
            return refuse(NONE);
        }
        for (int i = 0; i < BARGAIN; i++) {
            if (!within(asked.numbers[i], -MOST_GAIN, MOST_GAIN)) {
                return refuse(BEYOND);
            }
        }
        bargain.strike(asked.numbers);
        if (bargain.plain && (what == 1 || what == 2)) {
            return refuse(NONE);
        }
        return bargain.tells(what);
    }

    // ---- voices, sheets, images, what is told

    public int voice(int rider, int voice, int x) {
        if (!isRider(rider) || !within(voice, RIDES, PARTS)) {
            return refuse(BEYOND);
        }
        // Every KIND's parts comes to BODY 13, so it is known ahead, and THE TRACE stays as an ERROR leaves it.
        if (voice == PARTS && now.riders[rider].m == rider) {
            return refuse(PARTED);
        }
        return speaker.answer(now.riders[rider], rider, voice, x);
    }

    public int body(int i) {
        if (!within(i, 0, speaker.traced - 1)) {
            return refuse(NONE);
        }
        return speaker.trace[i];
    }

    public int sheet(int sheet, int bits, int n) {
        if (!isSheet(sheet) || !(bits == 0 || bits == 8 || bits == 16 || bits == 32)) {
            return refuse(BEYOND);
        }
        if (bits != 0 && n < 0) {
            return refuse(STATE);
        }
        if (bits != 0 && n > MOST_NUMBERS) {
            return refuse(BEYOND);
        }
        sheets[sheet].begin(bits, bits == 0 ? 0 : n);
        return 1;
    }

    public int put(int sheet, int i, int v) {
        if (!isSheet(sheet)) {
            return refuse(BEYOND);
        }
        if (sheets[sheet].isMissing()) {
            return refuse(NONE);
        }
        if (!within(i, 0, sheets[sheet].size - 1)) {
            return refuse(BEYOND);
        }
        sheets[sheet].write(i, v);
        return 1;
    }

    public int move(int sheet, int i, int other, int j, int n) {
        if (!isSheet(sheet) || !isSheet(other)) {
            return refuse(BEYOND);
        }
        Sheet from = sheets[sheet];
        Sheet to = sheets[other];
        if (from.isMissing() || to.isMissing()) {
            return refuse(NONE);
        }
        if (from.bits != to.bits) {
            return refuse(UNLIKE);
        }
        if (!from.has(i, n) || !to.has(j, n)) {
            return refuse(BEYOND);
        }
        System.arraycopy(from.numbers, i, to.numbers, j, n);
        return n;
    }

    public int ways(int sheet, int rider) {
        if (!isSheet(sheet) || !isRider(rider)) {
            return refuse(BEYOND);
        }
        Sheet asked = sheets[sheet];
        if (asked.isMissing()) {
            return refuse(NONE);
        }
        for (int i = 0; i < asked.size; i++) {
            int way = asked.numbers[i];
            if (!within(way, NORTH, WEST) || !now.riders[rider].addWay(way)) {
                return i;
            }
        }
        return asked.size;
    }

    public int judge(int sheet, int rider) {
        if (!isSheet(sheet) || !isRider(rider)) {
            return refuse(BEYOND);
        }
        Sheet asked = sheets[sheet];
        if (asked.isMissing()) {
            return refuse(NONE);
        }
        ahead.copyFrom(now);
        for (int i = 0; i < asked.size; i++) {
            if (asked.numbers[i] != ahead.riders[rider].cell) {
                return i;
            }
            ahead.passHour();
        }
        return asked.size;
    }

    public int image() {
        keptMoor.copyFrom(now);
        keptDesk.copyFrom(desk);
        imagesMade++;
        return imagesMade;
    }

    public int restore() {
        if (imagesMade == 0) {
            return refuse(NONE);
        }
        now.copyFrom(keptMoor);
        desk.copyFrom(keptDesk);
        return now.hour;
    }

    public int tell(int v) {
        if (desk.waitingCount >= MOST_WAITING) {
            return refuse(FULL);
        }
        desk.waiting[desk.waitingCount] = v;
        desk.waitingCount++;
        return desk.waitingCount;
    }

    public int check() {
        int waiting = desk.waitingCount;
        desk.waitingCount = 0;
        ahead.copyFrom(now);
        for (int i = 0; i < waiting; i++) {
            ahead.passHour();
            if (desk.waiting[i] != ahead.printCount) {
                return 1 + i;
            }
        }
        return 0;
    }

    public int count(int what) {
        switch (what) {
            case 0:
                return now.riderCount;
            case 1:
                return now.hour;
            case 2:
                return now.frost;
            case 3:
                return now.printCount;
            case 4:
                return desk.tapeLength;
            case 5:
                return desk.waitingCount;
            case 6:
                return speaker.traced;
            case 7:
                return desk.z;
            default:
                return refuse(BEYOND);
        }
    }

    public int told(int k) {
        if (!within(k, BEYOND, PARTED)) {
            return refuse(BEYOND);
        }
        return errors[k];
    }

    // ---- what the acts share

    private int refuse(int error) {
        errors[error]++;
        return LOW - error;
    }

    private void lookAhead(int n) {
        ahead.copyFrom(now);
        ahead.passHours(n);
    }

    private boolean isRider(int rider) {
        return within(rider, 0, now.riderCount - 1);
    }

    private static boolean within(int v, int least, int greatest) {
        return v >= least && v <= greatest;
    }

    private static boolean isCell(int cell) {
        return within(cell, 0, CELLS - 1);
    }

    private static boolean isRiderFact(int what) {
        return within(what, 0, 19);
    }

    private static boolean isCellFact(int what) {
        return within(what, 0, 4);
    }

    private static boolean isUse(int use) {
        return within(use, SHOES, DOUBT);
    }

    private static boolean isSheet(int sheet) {
        return within(sheet, 0, SHEETS - 1);
    }

    private static boolean isOrUnder(int kind, int above) {
        int at = kind;
        for (int i = 0; i < KINDS && at >= 0; i++) {
            if (at == above) {
                return true;
            }
            at = ABOVE[at];
        }
        return false;
    }

    /** Rows apart and columns apart together. */
    private static int far(int cell, int other) {
        return Math.abs(cell / SIDE - other / SIDE) + Math.abs(cell % SIDE - other % SIDE);
    }

    /** The CELL that lies one WAY from a CELL; -1 at the border. */
    private static int nextCell(int cell, int way) {
        switch (way) {
            case NORTH:
                return cell >= SIDE ? cell - SIDE : -1;
            case EAST:
                return cell % SIDE < SIDE - 1 ? cell + 1 : -1;
            case SOUTH:
                return cell < CELLS - SIDE ? cell + SIDE : -1;
            default:
                return cell % SIDE > 0 ? cell - 1 : -1;
        }
    }

    private static int back(int way) {
        return (way + 2) % 4;
    }

    /** What a PRINT of one of KINDS 0 .. 5 shows; -1: there is no PRINT. */
    private static int shownBy(int kind, int way, int step) {
        boolean limps = step % 4 == 0;
        switch (kind) {
            case RIDER:
                return way;
            case TURNED:
                return back(way);
            case LAME:
                return limps ? back(way) : way;
            case DOUBLED:
                return step % 2 == 0 ? back(way) : way;
            case SLEDGE:
                int lame = limps ? back(way) : way;
                return lame == EAST || lame == WEST ? back(lame) : lame;
            default:
                return -1;
        }
    }

    private static int depthOf(int kind, int m, int load) {
        int plain = load / 10 + 1;
        switch (kind) {
            case LAME:
                return plain + m;
            case WALKER:
                return 0;
            case DOUBLED:
                return plain * 2;
            case SLEDGE:
                return (plain + m) / 2;
            default:
                return plain;
        }
    }

    /** One of the RIDERS, with the RIDE. */
    private static final class Rider {
        int kind;
        int m;
        int cell;
        int load;
        int length;
        int step;
        final int[] ride = new int[MOST_WAYS];

        void begin(int newKind, int newM, int newCell) {
            kind = newKind;
            m = newM;
            cell = newCell;
            load = 0;
            length = 0;
            step = 0;
        }

        void copyFrom(Rider other) {
            kind = other.kind;
            m = other.m;
            cell = other.cell;
            load = other.load;
            length = other.length;
            step = other.step;
            System.arraycopy(other.ride, 0, ride, 0, MOST_WAYS);
        }

        boolean addWay(int way) {
            if (length >= MOST_WAYS) {
                return false;
            }
            ride[length] = way;
            length++;
            return true;
        }

        /** The greatest number that a fact can be set to; below 0: it can't be set. */
        int greatest(int what) {
            switch (what) {
                case 0:
                    return KINDS - 1;
                case 1:
                    return 9;
                case 2:
                    return CELLS - 1;
                case 3:
                    return MOST_LOAD;
                case 5:
                    return length;
                default:
                    return -1;
            }
        }

        int change(int what, int v) {
            int was = fact(what);
            switch (what) {
                case 0:
                    kind = v;
                    break;
                case 1:
                    m = v;
                    break;
                case 2:
                    cell = v;
                    break;
                case 3:
                    load = v;
                    break;
                default:
                    step = v;
                    break;
            }
            return was;
        }

        /** What riderIs() tells, but for the PRINTS, which the Moor counts. */
        int fact(int what) {
            switch (what) {
                case 0:
                    return kind;
                case 1:
                    return m;
                case 2:
                    return cell;
                case 3:
                    return load;
                case 4:
                    return length;
                case 5:
                    return step;
                case 6:
                    return depthOf(kind, m, load);
                default:
                    return within(what - 8, 0, length - 1) ? ride[what - 8] : -1;
            }
        }
    }

    /** All that goes on by HOURS: CELLS, RIDERS, PRINTS. Every PRINT that is held is SEEN. */
    private static final class Moor {
        final int[] soil = new int[CELLS];
        int frost;
        int hour;
        final Rider[] riders = new Rider[MOST_RIDERS];
        int riderCount;
        /** P_WIDE numbers for each PRINT, in the order in which print() tells them. */
        final int[] prints = new int[MOST_PRINTS * P_WIDE];
        int printCount;
        final Text[] texts = new Text[USES];
        final int[] names = new int[MOST_NAMES];
        final int[] stack = new int[MOST_BYTES];

        Moor() {
            for (int i = 0; i < MOST_RIDERS; i++) {
                riders[i] = new Rider();
            }
        }

        void copyFrom(Moor other) {
            System.arraycopy(other.soil, 0, soil, 0, CELLS);
            frost = other.frost;
            hour = other.hour;
            riderCount = other.riderCount;
            for (int i = 0; i < MOST_RIDERS; i++) {
                riders[i].copyFrom(other.riders[i]);
            }
            printCount = other.printCount;
            System.arraycopy(other.prints, 0, prints, 0, MOST_PRINTS * P_WIDE);
            texts[SHOES] = other.texts[SHOES];
            texts[DOUBT] = other.texts[DOUBT];
        }

        int keeps(int cell) {
            switch (soil[cell]) {
                case PEAT:
                    return 9 + frost;
                case GRASS:
                    return 4 + frost;
                case ROCK:
                    return 1;
                default:
                    return 0;
            }
        }

        void passHours(int n) {
            for (int i = 0; i < n; i++) {
                passHour();
            }
        }

        void passHour() {
            for (int i = 0; i < riderCount; i++) {
                if (riders[i].step < riders[i].length) {
                    takeStep(i, riders[i]);
                }
            }
            hour++;
            fade();
        }

        private void takeStep(int number, Rider one) {
            int way = one.ride[one.step];
            int next = nextCell(one.cell, way);
            if (next >= 0) {
                int shown = one.kind == TOLD ? shownByShoes(one, way) : shownBy(one.kind, way, one.step);
                if (shown >= 0 && keeps(one.cell) > 0) {
                    leave(number, one, shown);
                }
                one.cell = next;
            }
            one.step++;
        }

        private int shownByShoes(Rider one, int way) {
            Text shoes = texts[SHOES];
            int told = way + one.m;
            if (shoes != null) {
                names[0] = way;
                names[1] = one.step;
                names[2] = one.m;
                names[3] = soil[one.cell];
                told = shoes.worth(names, stack);
            }
            return told < 0 ? -1 : told % 4;
        }

        private void leave(int number, Rider one, int shown) {
            if (printCount >= MOST_PRINTS) {
                printCount = MOST_PRINTS - 1;
                System.arraycopy(prints, P_WIDE, prints, 0, printCount * P_WIDE);
            }
            int at = printCount * P_WIDE;
            prints[at + P_CELL] = one.cell;
            prints[at + P_SHOWN] = shown;
            prints[at + P_DEPTH] = depthOf(one.kind, one.m, one.load);
            prints[at + P_HOUR] = hour;
            prints[at + P_RIDER] = number;
            printCount++;
        }

        /** PRINTS go that are no more SEEN. */
        void fade() {
            int kept = 0;
            for (int i = 0; i < printCount; i++) {
                int cell = prints[i * P_WIDE + P_CELL];
                if (hour <= prints[i * P_WIDE + P_HOUR] + keeps(cell)) {
                    keepPrint(i, kept);
                    kept++;
                }
            }
            printCount = kept;
        }

        /** Cattle tread in a CELL: all PRINTS there go. */
        void tread(int cell) {
            int kept = 0;
            for (int i = 0; i < printCount; i++) {
                if (prints[i * P_WIDE + P_CELL] != cell) {
                    keepPrint(i, kept);
                    kept++;
                }
            }
            printCount = kept;
        }

        private void keepPrint(int from, int to) {
            System.arraycopy(prints, from * P_WIDE, prints, to * P_WIDE, P_WIDE);
        }

        int riderFact(int rider, int what) {
            return what == 7 ? printsWith(P_RIDER, rider) : riders[rider].fact(what);
        }

        int cellFact(int cell, int what) {
            switch (what) {
                case 0:
                    return soil[cell];
                case 1:
                    return printsWith(P_CELL, cell);
                case 2:
                    int latest = latestAt(cell);
                    return latest < 0 ? -1 : prints[latest * P_WIDE + P_SHOWN];
                case 3:
                    return deepestAt(cell);
                default:
                    return doubtOf(cell);
            }
        }

        private int printsWith(int field, int v) {
            int found = 0;
            for (int i = 0; i < printCount; i++) {
                if (prints[i * P_WIDE + field] == v) {
                    found++;
                }
            }
            return found;
        }

        /** PRINTS stand by HOUR and in one HOUR by RIDER, so the last one in a CELL is the latest; -1: none. */
        private int latestAt(int cell) {
            int latest = -1;
            for (int i = 0; i < printCount; i++) {
                if (prints[i * P_WIDE + P_CELL] == cell) {
                    latest = i;
                }
            }
            return latest;
        }

        private int deepestAt(int cell) {
            int deepest = 0;
            for (int i = 0; i < printCount; i++) {
                if (prints[i * P_WIDE + P_CELL] == cell) {
                    deepest = Math.max(deepest, prints[i * P_WIDE + P_DEPTH]);
                }
            }
            return deepest;
        }

        private int doubtOf(int cell) {
            int latest = latestAt(cell);
            int age = latest < 0 ? NEVER : hour - prints[latest * P_WIDE + P_HOUR];
            Text doubt = texts[DOUBT];
            if (doubt == null) {
                return age;
            }
            names[0] = printsWith(P_CELL, cell);
            names[1] = deepestAt(cell);
            names[2] = age;
            return Math.max(0, Math.min(MOST_DOUBT, doubt.worth(names, stack)));
        }

        /** FOLLOW: what 0 the CELL where it ends, 1 how many steps. */
        int trail(int cell, int believing, int n, int what) {
            int at = cell;
            int steps = 0;
            while (steps < n) {
                int latest = latestAt(at);
                if (latest < 0) {
                    break;
                }
                int shown = prints[latest * P_WIDE + P_SHOWN];
                int next = nextCell(at, believing == BELIEVING ? shown : back(shown));
                if (next < 0) {
                    break;
                }
                at = next;
                steps++;
            }
            return what == 0 ? at : steps;
        }

        /** Whether one of a KIND, begun in a CELL in HOUR h, would have left just the PRINTS of a RIDER. */
        boolean wouldLeaveAll(int rider, int kind, int cell, int h) {
            Rider one = riders[rider];
            int depth = depthOf(kind, one.m, one.load);
            int at = cell;
            int found = printOf(rider, 0);
            for (int step = 0; step < one.length && h + step < hour; step++) {
                int way = one.ride[step];
                int next = nextCell(at, way);
                if (next < 0) {
                    continue;
                }
                int shown = shownBy(kind, way, step);
                if (shown >= 0 && hour <= h + step + keeps(at)) {
                    if (found < 0 || !isPrint(found, at, shown, depth, h + step)) {
                        return false;
                    }
                    found = printOf(rider, found + 1);
                }
                at = next;
            }
            return found < 0;
        }

        /** The first PRINT of a RIDER that stands at a place or behind it; -1: none. */
        private int printOf(int rider, int from) {
            for (int i = from; i < printCount; i++) {
                if (prints[i * P_WIDE + P_RIDER] == rider) {
                    return i;
                }
            }
            return -1;
        }

        private boolean isPrint(int i, int cell, int shown, int depth, int left) {
            int at = i * P_WIDE;
            return prints[at + P_CELL] == cell && prints[at + P_SHOWN] == shown
                && prints[at + P_DEPTH] == depth && prints[at + P_HOUR] == left;
        }
    }

    /** What an IMAGE keeps beside the Moor: THE TAPE, the numbers that wait, z. */
    private static final class Desk {
        final int[] tape = new int[MOST_BYTES];
        int tapeLength;
        final int[] waiting = new int[MOST_WAITING];
        int waitingCount;
        int z = 1;

        void copyFrom(Desk other) {
            System.arraycopy(other.tape, 0, tape, 0, MOST_BYTES);
            tapeLength = other.tapeLength;
            System.arraycopy(other.waiting, 0, waiting, 0, MOST_WAITING);
            waitingCount = other.waitingCount;
            z = other.z;
        }

        int drawn() {
            z = z * 1103515245 + 12345;
            return z >>> 8;
        }
    }

    /**
     * A TEXT as signs that are worked out from the first to the last: a number from 0 on is itself,
     * -1 .. -MOST_NAMES are NAMES, the others are OPERATOR less the byte of an operator.
     */
    private static final class Text {
        static final int OPERATOR = -10;
        private final int[] signs;

        Text(int[] someSigns) {
            signs = someSigns;
        }

        int worth(int[] names, int[] stack) {
            int top = 0;
            for (int i = 0; i < signs.length; i++) {
                int sign = signs[i];
                if (sign >= -MOST_NAMES) {
                    if (top >= stack.length) {
                        return 0;
                    }
                    stack[top] = sign >= 0 ? sign : names[-1 - sign];
                    top++;
                } else if (OPERATOR - sign == '!') {
                    if (top < 1) {
                        return 0;
                    }
                    stack[top - 1] = stack[top - 1] == 0 ? 1 : 0;
                } else {
                    if (top < 2) {
                        return 0;
                    }
                    top--;
                    stack[top - 1] = joined(OPERATOR - sign, stack[top - 1], stack[top]);
                }
            }
            return top > 0 ? stack[0] : 0;
        }

        private static int joined(int operator, int a, int b) {
            switch (operator) {
                case '|':
                    return a != 0 || b != 0 ? 1 : 0;
                case '&':
                    return a != 0 && b != 0 ? 1 : 0;
                case '<':
                    return a < b ? 1 : 0;
                case '=':
                    return a == b ? 1 : 0;
                case '>':
                    return a > b ? 1 : 0;
                case '+':
                    return a + b;
                case '-':
                    return a - b;
                case '*':
                    return a * b;
                case '/':
                    return b == 0 ? 0 : a / b;
                default:
                    return b == 0 ? 0 : a % b;
            }
        }
    }

    /** Reads a TEXT from bytes; where it stops without one, at is the FAULT. */
    private static final class Reader {
        private int[] bytes = new int[0];
        private int length;
        private String names = "";
        int at;
        private final int[] signs = new int[MOST_BYTES];
        private int signCount;

        boolean read(int[] someBytes, int howMany, String someNames) {
            bytes = someBytes;
            length = howMany;
            names = someNames;
            at = 0;
            signCount = 0;
            return readLevel(0, 0) && at == length;
        }

        Text made() {
            int[] own = new int[signCount];
            System.arraycopy(signs, 0, own, 0, signCount);
            return new Text(own);
        }

        /** Levels 0 .. 4 bind ever more closely: | & comparing, adding, multiplying. */
        private boolean readLevel(int level, int open) {
            if (level > TIMES) {
                return readUnit(open);
            }
            if (!readLevel(level + 1, open)) {
                return false;
            }
            while (at < length && levelOf(bytes[at]) == level) {
                int operator = bytes[at];
                at++;
                if (!readLevel(level + 1, open)) {
                    return false;
                }
                note(Text.OPERATOR - operator);
                if (level == COMPARING) {
                    break;
                }
            }
            return true;
        }

        private boolean readUnit(int open) {
            if (at >= length) {
                return false;
            }
            int sign = bytes[at];
            if (isDigit(sign)) {
                readNumber();
                return true;
            }
            int name = names.indexOf((char) sign);
            if (name >= 0) {
                at++;
                note(-1 - name);
                return true;
            }
            if ((sign != '!' && sign != '(') || open >= MOST_OPEN) {
                return false;
            }
            at++;
            return sign == '!' ? readDenied(open + 1) : readEnclosed(open + 1);
        }

        private boolean readDenied(int open) {
            if (!readUnit(open)) {
                return false;
            }
            note(Text.OPERATOR - '!');
            return true;
        }

        private boolean readEnclosed(int open) {
            if (!readLevel(0, open)) {
                return false;
            }
            if (at >= length || bytes[at] != ')') {
                return false;
            }
            at++;
            return true;
        }

        private void readNumber() {
            int number = 0;
            for (int i = 0; i < MOST_DIGITS && at < length && isDigit(bytes[at]); i++) {
                number = number * 10 + bytes[at] - '0';
                at++;
            }
            note(number);
        }

        private void note(int sign) {
            if (signCount < MOST_BYTES) {
                signs[signCount] = sign;
                signCount++;
            }
        }

        private static boolean isDigit(int sign) {
            return sign >= '0' && sign <= '9';
        }

        private static int levelOf(int sign) {
            switch (sign) {
                case '|':
                    return 0;
                case '&':
                    return 1;
                case '<':
                case '=':
                case '>':
                    return COMPARING;
                case '+':
                case '-':
                    return 3;
                case '*':
                case '/':
                case '%':
                    return TIMES;
                default:
                    return -1;
            }
        }
    }

    /** Answers VOICES, and keeps THE TRACE of the latest one. */
    private static final class Speaker {
        final int[] trace = new int[MOST_BODIES];
        int traced;
        private int kind;
        private int m;
        private int k;

        int answer(Rider one, int number, int voice, int x) {
            kind = one.kind;
            m = one.m;
            k = number;
            traced = 0;
            return say(kind, voice, x, 0);
        }

        /** The BODY that a KIND, or the next one above, has of a VOICE. */
        private int say(int from, int voice, int x, int depth) {
            int holder = holderOf(from, voice);
            if (holder < 0 || depth > DEEPEST) {
                return 0;
            }
            int spoken = BODIES[holder * VOICES + voice];
            begin(spoken);
            return workOut(spoken, ABOVE[holder], x, depth + 1);
        }

        private int workOut(int spoken, int above, int x, int deeper) {
            switch (spoken) {
                case 10:
                    return x + k;
                case 11:
                    return say(kind, RIDES, x, deeper) * 2;
                case 12:
                    return say(kind, SHOWS, x, deeper) - m;
                case 13:
                    return m == k ? 0 : x / (m - k);
                case 20:
                    return say(above, RIDES, x, deeper) - 7;
                case 21:
                    return say(above, PARTS, x, deeper) + say(kind, SHOWS, 1, deeper);
                case 30:
                    return 0 - say(above, SHOWS, x, deeper);
                case 40:
                    return say(above, SINKS, x / 2, deeper);
                case 50:
                    return say(above, RIDES, x, deeper) * 3;
                case 51:
                    return say(above, SINKS, x, deeper) ^ k;
                case 60:
                    return say(above, SHOWS, x + 1, deeper);
                case 70:
                    return 5;
                default:
                    return say(above, SHOWS, x, deeper) + m;
            }
        }

        private static int holderOf(int from, int voice) {
            int at = from;
            for (int i = 0; i < KINDS && at >= 0; i++) {
                if (BODIES[at * VOICES + voice] != 0) {
                    return at;
                }
                at = ABOVE[at];
            }
            return -1;
        }

        private void begin(int spoken) {
            if (traced < MOST_BODIES) {
                trace[traced] = spoken;
                traced++;
            }
        }
    }

    /** A row of numbers of 8, 16 or 32 bits; 0 bits: it is missing. */
    private static final class Sheet {
        int bits;
        int size;
        final int[] numbers = new int[MOST_NUMBERS];

        boolean isMissing() {
            return bits == 0;
        }

        void begin(int newBits, int newSize) {
            bits = newBits;
            size = newSize;
            for (int i = 0; i < MOST_NUMBERS; i++) {
                numbers[i] = 0;
            }
        }

        void write(int i, int v) {
            if (bits == 8) {
                numbers[i] = (byte) v;
            } else if (bits == 16) {
                numbers[i] = (short) v;
            } else {
                numbers[i] = v;
            }
        }

        boolean has(int i, int n) {
            return i >= 0 && n >= 0 && i <= size && n <= size - i;
        }
    }

    /** REST of a bargain. */
    private static final class Bargain {
        boolean plain;
        private int turnedAbove;
        private int turnedBelow;
        private int gainAbove;
        private int gainBelow;

        void strike(int[] gains) {
            int a = gains[0];
            int b = gains[1];
            int c = gains[2];
            int d = gains[3];
            int sure = Math.max(Math.min(a, b), Math.min(c, d));
            plain = sure == Math.min(Math.max(a, c), Math.max(b, d));
            int below = a - b - c + d;
            if (plain || below == 0) {
                gainAbove = sure;
                gainBelow = 1;
                return;
            }
            int sign = below < 0 ? -1 : 1;
            int turned = greatestDivisor(Math.abs(a - b), Math.abs(below));
            turnedAbove = sign * (a - b) / turned;
            turnedBelow = sign * below / turned;
            int worth = a * d - b * c;
            int gained = greatestDivisor(Math.abs(worth), Math.abs(below));
            gainAbove = sign * worth / gained;
            gainBelow = sign * below / gained;
        }

        int tells(int what) {
            switch (what) {
                case 0:
                    return plain ? 1 : 0;
                case 1:
                    return turnedAbove;
                case 2:
                    return turnedBelow;
                case 3:
                    return gainAbove;
                default:
                    return gainBelow;
            }
        }

        /** Of two numbers from 0 on; 1 if both are 0, so that it can divide. */
        private static int greatestDivisor(int one, int other) {
            int a = one;
            int b = other;
            for (int i = 0; i < 100 && b != 0; i++) {
                int left = a % b;
                a = b;
                b = left;
            }
            return a == 0 ? 1 : a;
        }
    }
}
