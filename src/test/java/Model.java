import java.util.ArrayList;
import java.util.List;

/**
 * The document once more, written in another way (lists, classes that override, a machine that reads TEXTS
 * sign by sign), for FuzzTest to hold the program against.
 */
final class Model {
    static final int LOW = -1000000000;

    static final class Refusal extends RuntimeException {
        private static final long serialVersionUID = 1L;
        final int k;

        Refusal(int k) {
            super(null, null, false, false);
            this.k = k;
        }
    }

    record Print(int cell, int shown, int depth, int hour, int rider) {
    }

    /** A KIND's VOICES, as the document's table tells them. */
    static class Plain {
        int k;
        int m;
        List<Integer> trace = new ArrayList<>();

        int rides(int x) {
            trace.add(10);
            return x + k;
        }

        int shows(int x) {
            trace.add(11);
            return rides(x) * 2;
        }

        int sinks(int x) {
            trace.add(12);
            return shows(x) - m;
        }

        int parts(int x) {
            trace.add(13);
            if (m == k) {
                throw new Refusal(6);
            }
            return x / (m - k);
        }
    }

    static class Turned extends Plain {
        @Override
        int rides(int x) {
            trace.add(20);
            return super.rides(x) - 7;
        }

        @Override
        int parts(int x) {
            trace.add(21);
            return super.parts(x) + shows(1);
        }
    }

    static class Lame extends Plain {
        @Override
        int shows(int x) {
            trace.add(30);
            return 0 - super.shows(x);
        }
    }

    static class Walker extends Plain {
        @Override
        int sinks(int x) {
            trace.add(40);
            return super.sinks(x / 2);
        }
    }

    static class Doubled extends Turned {
        @Override
        int rides(int x) {
            trace.add(50);
            return super.rides(x) * 3;
        }

        @Override
        int sinks(int x) {
            trace.add(51);
            return super.sinks(x) ^ k;
        }
    }

    static class Sledge extends Lame {
        @Override
        int shows(int x) {
            trace.add(60);
            return super.shows(x + 1);
        }
    }

    static class Told extends Plain {
        @Override
        int rides(int x) {
            trace.add(70);
            return 5;
        }

        @Override
        int shows(int x) {
            trace.add(71);
            return super.shows(x) + m;
        }
    }

    static Plain kindOf(int kind) {
        return switch (kind) {
            case 1 -> new Turned();
            case 2 -> new Lame();
            case 3 -> new Walker();
            case 4 -> new Doubled();
            case 5 -> new Sledge();
            case 6 -> new Told();
            default -> new Plain();
        };
    }

    static final class Horse {
        int kind;
        int m;
        int cell;
        int load;
        int step;
        List<Integer> ride = new ArrayList<>();

        Horse copy() {
            Horse other = new Horse();
            other.kind = kind;
            other.m = m;
            other.cell = cell;
            other.load = load;
            other.step = step;
            other.ride.addAll(ride);
            return other;
        }

        int depth() {
            int rider = load / 10 + 1;
            int lame = rider + m;
            return new int[] {rider, rider, lame, 0, 2 * rider, lame / 2, rider}[kind];
        }
    }

    static final class World {
        int[] soil = new int[36];
        int frost;
        int hour;
        List<Horse> horses = new ArrayList<>();
        List<Print> prints = new ArrayList<>();
        String shoes;
        String doubt;
        List<Integer> tape = new ArrayList<>();
        List<Integer> waiting = new ArrayList<>();
        int z = 1;

        World copy() {
            World other = new World();
            other.soil = soil.clone();
            other.frost = frost;
            other.hour = hour;
            for (Horse horse : horses) {
                other.horses.add(horse.copy());
            }
            other.prints.addAll(prints);
            other.shoes = shoes;
            other.doubt = doubt;
            other.tape.addAll(tape);
            other.waiting.addAll(waiting);
            other.z = z;
            return other;
        }

        int keeps(int cell) {
            return new int[] {9 + frost, 4 + frost, 1, 0}[soil[cell]];
        }

        void fade() {
            prints.removeIf(p -> hour > p.hour + keeps(p.cell));
        }

        int shown(Horse horse, int w) {
            String turned = "2301";
            int back = turned.charAt(w) - '0';
            int lame = horse.step % 4 == 0 ? back : w;
            switch (horse.kind) {
                case 0:
                    return w;
                case 1:
                    return back;
                case 2:
                    return lame;
                case 3:
                    return -1;
                case 4:
                    return horse.step % 2 == 0 ? back : w;
                case 5:
                    return "0321".charAt(lame) - '0';
                default:
                    int v = shoes == null ? w + horse.m
                        : worth(shoes, "wsmg", w, horse.step, horse.m, soil[horse.cell]);
                    return v < 0 ? -1 : v % 4;
            }
        }

        void hour() {
            for (int i = 0; i < horses.size(); i++) {
                Horse horse = horses.get(i);
                if (horse.step == horse.ride.size()) {
                    continue;
                }
                int w = horse.ride.get(horse.step);
                int next = next(horse.cell, w);
                if (next >= 0) {
                    int shown = shown(horse, w);
                    if (shown >= 0 && keeps(horse.cell) > 0) {
                        prints.add(new Print(horse.cell, shown, horse.depth(), hour, i));
                        if (prints.size() > 40) {
                            prints.remove(0);
                        }
                    }
                    horse.cell = next;
                }
                horse.step++;
            }
            hour++;
            fade();
        }

        World ahead(int n) {
            World other = copy();
            for (int i = 0; i < n; i++) {
                other.hour();
            }
            return other;
        }

        Print latest(int cell) {
            Print latest = null;
            for (Print p : prints) {
                if (p.cell == cell && (latest == null || p.hour * 10 + p.rider > latest.hour * 10 + latest.rider)) {
                    latest = p;
                }
            }
            return latest;
        }

        List<Integer> path(int cell, int believing, int n) {
            List<Integer> path = new ArrayList<>(List.of(cell));
            for (int i = 0; i < n; i++) {
                Print p = latest(path.get(i));
                int next = p == null ? -1 : next(p.cell, believing == 0 ? p.shown : p.shown ^ 2);
                if (next < 0) {
                    return path;
                }
                path.add(next);
            }
            return path;
        }

        int end(int cell) {
            List<Integer> path = path(cell, 0, 40);
            return path.get(path.size() - 1);
        }

        int horseFact(int i, int what) {
            Horse horse = horses.get(i);
            if (what == 7) {
                return (int) prints.stream().filter(p -> p.rider == i).count();
            }
            if (what >= 8) {
                return what - 8 < horse.ride.size() ? horse.ride.get(what - 8) : -1;
            }
            return new int[] {horse.kind, horse.m, horse.cell, horse.load, horse.ride.size(), horse.step,
                horse.depth()}[what];
        }

        int cellFact(int cell, int what) {
            Print latest = latest(cell);
            int n = (int) prints.stream().filter(p -> p.cell == cell).count();
            int d = prints.stream().filter(p -> p.cell == cell).mapToInt(Print::depth).max().orElse(0);
            int a = latest == null ? 99 : hour - latest.hour;
            switch (what) {
                case 0:
                    return soil[cell];
                case 1:
                    return n;
                case 2:
                    return latest == null ? -1 : latest.shown;
                case 3:
                    return d;
                default:
                    int v = doubt == null ? a : worth(doubt, "nda", n, d, a);
                    return v < 0 ? 0 : v > 99 ? 99 : v;
            }
        }
    }

    static int next(int cell, int way) {
        int row = cell / 6 + new int[] {-1, 0, 1, 0}[way];
        int column = cell % 6 + new int[] {0, 1, 0, -1}[way];
        return row < 0 || row > 5 || column < 0 || column > 5 ? -1 : row * 6 + column;
    }

    static int far(int a, int b) {
        return Math.abs(a / 6 - b / 6) + Math.abs(a % 6 - b % 6);
    }

    /** -1: it is a TEXT; else the FAULT. Each open sign is kept with whether a comparing stands ahead of it. */
    static int fault(String text, String names) {
        StringBuilder open = new StringBuilder();
        boolean compared = false;
        boolean operand = true;
        int digits = 0;
        for (int i = 0; i < text.length(); i++) {
            char c = text.charAt(i);
            boolean digit = c >= '0' && c <= '9';
            if (digits > 0 && digits < 4 && digit) {
                digits++;
                continue;
            }
            digits = 0;
            if (operand) {
                if (digit || names.indexOf(c) >= 0) {
                    digits = digit ? 1 : 0;
                    operand = false;
                    dropDenials(open);
                } else if ((c == '!' || c == '(') && open.length() < 5) {
                    open.append(c == '!' ? '!' : compared ? 'C' : 'c');
                    compared = c == '(' ? false : compared;
                } else {
                    return i;
                }
            } else if (c == ')' && open.length() > 0) {
                compared = open.charAt(open.length() - 1) == 'C';
                open.setLength(open.length() - 1);
                dropDenials(open);
            } else if ("<=>".indexOf(c) >= 0 && !compared) {
                compared = true;
                operand = true;
            } else if ("|&".indexOf(c) >= 0) {
                compared = false;
                operand = true;
            } else if ("+-*/%".indexOf(c) >= 0) {
                operand = true;
            } else {
                return i;
            }
        }
        return operand || open.length() > 0 ? text.length() : -1;
    }

    private static void dropDenials(StringBuilder open) {
        while (open.length() > 0 && open.charAt(open.length() - 1) == '!') {
            open.setLength(open.length() - 1);
        }
    }

    /** Splits a TEXT at its loosest operator, the last one of several alike. */
    static int worth(String text, String names, int... values) {
        for (String level : new String[] {"|", "&", "<=>", "+-", "*/%"}) {
            int depth = 0;
            for (int i = text.length() - 1; i > 0; i--) {
                char c = text.charAt(i);
                depth += c == ')' ? 1 : c == '(' ? -1 : 0;
                if (depth == 0 && level.indexOf(c) >= 0) {
                    int a = worth(text.substring(0, i), names, values);
                    int b = worth(text.substring(i + 1), names, values);
                    return switch (c) {
                        case '|' -> a != 0 | b != 0 ? 1 : 0;
                        case '&' -> a != 0 & b != 0 ? 1 : 0;
                        case '<' -> a < b ? 1 : 0;
                        case '=' -> a == b ? 1 : 0;
                        case '>' -> a > b ? 1 : 0;
                        case '+' -> a + b;
                        case '-' -> a - b;
                        case '*' -> a * b;
                        case '/' -> b == 0 ? 0 : a / b;
                        default -> b == 0 ? 0 : a % b;
                    };
                }
            }
        }
        if (text.charAt(0) == '!') {
            return worth(text.substring(1), names, values) == 0 ? 1 : 0;
        }
        if (text.charAt(0) == '(') {
            return worth(text.substring(1, text.length() - 1), names, values);
        }
        int name = names.indexOf(text.charAt(0));
        return name >= 0 ? values[name] : Integer.parseInt(text);
    }

    private World now = new World();
    private World image;
    private int images;
    private final int[] bits = new int[4];
    private final int[][] sheets = new int[4][];
    private List<Integer> trace = new ArrayList<>();
    private final int[] told = new int[7];

    int call(String act, long word, int... a) {
        try {
            return answer(act, word, a);
        } catch (Refusal refusal) {
            told[refusal.k]++;
            return LOW - refusal.k;
        }
    }

    private static void need(boolean holds, int k) {
        if (!holds) {
            throw new Refusal(k);
        }
    }

    private static void in(int v, int least, int greatest) {
        need(v >= least && v <= greatest, 1);
    }

    private Horse horse(int i) {
        in(i, 0, now.horses.size() - 1);
        return now.horses.get(i);
    }

    private int[] sheet(int i) {
        in(i, 0, 3);
        need(sheets[i] != null, 2);
        return sheets[i];
    }

    private int answer(String act, long word, int[] a) {
        switch (act) {
            case "ground": {
                in(a[0], 0, 35);
                in(a[1], 0, 3);
                int was = now.soil[a[0]];
                now.soil[a[0]] = a[1];
                now.fade();
                return was;
            }
            case "frost": {
                in(a[0], 0, 9);
                int was = now.frost;
                now.frost = a[0];
                now.fade();
                return was;
            }
            case "rider":
                return rider(a[0], a[1]);
            case "riderIs":
                horse(a[0]);
                in(a[1], 0, 19);
                return now.horseFact(a[0], a[1]);
            case "as": {
                Horse horse = horse(a[0]);
                in(a[1], 0, 6);
                need(kindOf(a[1]).getClass().isInstance(kindOf(horse.kind)), 5);
                return horse.load;
            }
            case "set":
                return set(horse(a[0]), a[1], a[2]);
            case "way":
                horse(a[0]);
                in(a[1], 0, 3);
                need(now.horses.get(a[0]).ride.size() < 12, 4);
                now.horses.get(a[0]).ride.add(a[1]);
                return now.horses.get(a[0]).ride.size();
            case "halt": {
                Horse horse = horse(a[0]);
                int had = horse.ride.size();
                horse.ride.clear();
                horse.step = 0;
                return had;
            }
            case "feed":
                in(a[0], 1, 8);
                need(now.tape.size() + a[0] <= 60, 4);
                for (int i = 0; i < a[0]; i++) {
                    now.tape.add((int) (word >> 8 * i & 255));
                }
                return now.tape.size();
            case "text":
                return text(a[0]);
            case "untell": {
                in(a[0], 0, 1);
                String had = a[0] == 0 ? now.shoes : now.doubt;
                now.shoes = a[0] == 0 ? null : now.shoes;
                now.doubt = a[0] == 1 ? null : now.doubt;
                return had == null ? 0 : 1;
            }
            case "hours":
            case "draws":
                in(a[0], 1, 24);
                need(now.hour + a[0] <= 9999, 3);
                for (int i = 0; i < a[0]; i++) {
                    now.hour();
                    if (act.equals("draws")) {
                        now.z = now.z * 1103515245 + 12345;
                        int cell = (now.z >>> 8) % 36;
                        now.prints.removeIf(p -> p.cell == cell);
                    }
                }
                return now.prints.size();
            case "seed": {
                int was = now.z;
                now.z = a[0];
                return was;
            }
            case "print": {
                in(a[0], 0, now.prints.size() - 1);
                in(a[1], 0, 4);
                Print p = now.prints.get(a[0]);
                return new int[] {p.cell, p.shown, p.depth, p.hour, p.rider}[a[1]];
            }
            case "cellIs":
                in(a[0], 0, 35);
                in(a[1], 0, 4);
                return now.cellFact(a[0], a[1]);
            case "follow": {
                in(a[0], 0, 35);
                in(a[1], 0, 1);
                in(a[2], 0, 40);
                in(a[3], 0, 1);
                List<Integer> path = now.path(a[0], a[1], a[2]);
                return a[3] == 0 ? path.get(path.size() - 1) : path.size() - 1;
            }
            default:
                return wouldBe(act, a);
        }
    }

    private int wouldBe(String act, int[] a) {
        switch (act) {
            case "then":
                in(a[0], 0, 24);
                horse(a[1]);
                in(a[2], 0, 19);
                return now.ahead(a[0]).horseFact(a[1], a[2]);
            case "thenCell":
                in(a[0], 0, 24);
                in(a[1], 0, 35);
                in(a[2], 0, 4);
                return now.ahead(a[0]).cellFact(a[1], a[2]);
            case "loads":
                return loads(a[0], a[1], a[2]);
            case "kinds": {
                horse(a[0]);
                in(a[1], 0, 35);
                in(a[2], 0, now.hour);
                int fitting = 0;
                for (int kind = 0; kind < 6; kind++) {
                    fitting += fits(a[0], kind, a[1], a[2]) ? 1 << kind : 0;
                }
                return fitting;
            }
            case "leastFound": {
                Horse horse = horse(a[0]);
                in(a[1], 1, 12);
                int best = 0;
                int most = -1;
                int was = horse.kind;
                for (int kind = 0; kind < 6; kind++) {
                    horse.kind = kind;
                    World then = now.ahead(a[1]);
                    int far = far(then.end(horse.cell), then.horses.get(a[0]).cell);
                    best = far > most ? kind : best;
                    most = Math.max(far, most);
                }
                horse.kind = was;
                return best;
            }
            case "decoy": {
                horse(a[0]);
                in(a[1], 1, 12);
                in(a[2], 0, 35);
                World stays = now.copy();
                stays.horses.get(a[0]).ride.clear();
                stays.horses.get(a[0]).step = 0;
                return far(now.ahead(a[1]).end(a[2]), stays.ahead(a[1]).end(a[2]));
            }
            case "rest":
                return rest(a[0], a[1]);
            default:
                return more(act, a);
        }
    }

    private boolean fits(int rider, int kind, int cell, int h) {
        World alone = new World();
        alone.soil = now.soil;
        alone.frost = now.frost;
        alone.hour = h;
        for (int i = 0; i < rider; i++) {
            alone.horses.add(new Horse());
        }
        Horse horse = now.horses.get(rider).copy();
        horse.kind = kind;
        horse.cell = cell;
        horse.step = 0;
        alone.horses.add(horse);
        while (alone.hour < now.hour) {
            alone.hour();
        }
        return alone.prints.equals(now.prints.stream().filter(p -> p.rider == rider).toList());
    }

    private int rider(int km, int cell) {
        in(km, 0, 69);
        in(cell, 0, 35);
        need(now.horses.size() < 5, 4);
        Horse horse = new Horse();
        horse.kind = km / 10;
        horse.m = km % 10;
        horse.cell = cell;
        now.horses.add(horse);
        return now.horses.size() - 1;
    }

    private static int set(Horse horse, int what, int v) {
        need(what >= 0 && what <= 5 && what != 4, 1);
        in(v, 0, new int[] {6, 9, 35, 99, -1, horse.ride.size()}[what]);
        int[] was = {horse.kind, horse.m, horse.cell, horse.load, 0, horse.step};
        horse.kind = what == 0 ? v : horse.kind;
        horse.m = what == 1 ? v : horse.m;
        horse.cell = what == 2 ? v : horse.cell;
        horse.load = what == 3 ? v : horse.load;
        horse.step = what == 5 ? v : horse.step;
        return was[what];
    }

    private int text(int use) {
        in(use, 0, 1);
        StringBuilder text = new StringBuilder();
        for (int b : now.tape) {
            text.append((char) b);
        }
        now.tape.clear();
        int fault = fault(text.toString(), use == 0 ? "wsmg" : "nda");
        if (fault >= 0) {
            return -10 - fault;
        }
        now.shoes = use == 0 ? text.toString() : now.shoes;
        now.doubt = use == 1 ? text.toString() : now.doubt;
        return 1;
    }

    private static int loads(int depth, int km, int what) {
        in(depth, 0, 99);
        in(km, 0, 59);
        in(what, 0, 1);
        Horse horse = new Horse();
        horse.kind = km / 10;
        horse.m = km % 10;
        List<Integer> loads = new ArrayList<>();
        for (horse.load = 0; horse.load < 100; horse.load++) {
            if (horse.depth() == depth) {
                loads.add(horse.load);
            }
        }
        need(!loads.isEmpty(), 2);
        return loads.get(what == 0 ? 0 : loads.size() - 1);
    }

    private int rest(int sheet, int what) {
        in(sheet, 0, 3);
        in(what, 0, 4);
        need(sheet(sheet).length >= 4, 2);
        long[] g = new long[4];
        for (int i = 0; i < 4; i++) {
            in(sheets[sheet][i], -999, 999);
            g[i] = sheets[sheet][i];
        }
        long low = Math.max(Math.min(g[0], g[1]), Math.min(g[2], g[3]));
        long high = Math.min(Math.max(g[0], g[2]), Math.max(g[1], g[3]));
        if (what == 0) {
            return low == high ? 1 : 0;
        }
        if (low == high) {
            need(what > 2, 2);
            return what == 3 ? (int) low : 1;
        }
        // Odds q that shoes are turned make both columns gain alike: (1-q)a + qc = (1-q)b + qd.
        long below = g[0] - g[1] - g[2] + g[3];
        long above = what < 3 ? g[0] - g[1] : g[0] * g[3] - g[1] * g[2];
        long by = Math.abs(below);
        while (above % by != 0 || below % by != 0) {
            by--;
        }
        by *= Long.signum(below);
        return (int) (what % 2 == 1 ? above / by : below / by);
    }

    private int more(String act, int[] a) {
        switch (act) {
            case "voice":
                return voice(a[0], a[1], a[2]);
            case "body":
                need(a[0] >= 0 && a[0] < trace.size(), 2);
                return trace.get(a[0]);
            case "sheet":
                in(a[0], 0, 3);
                need(List.of(0, 8, 16, 32).contains(a[1]), 1);
                need(a[1] == 0 || a[2] >= 0, 3);
                need(a[1] == 0 || a[2] <= 24, 1);
                bits[a[0]] = a[1];
                sheets[a[0]] = a[1] == 0 ? null : new int[a[2]];
                return 1;
            case "put":
                in(a[1], 0, sheet(a[0]).length - 1);
                sheets[a[0]][a[1]] = a[2] << 32 - bits[a[0]] >> 32 - bits[a[0]];
                return 1;
            case "move":
                return move(a[0], a[1], a[2], a[3], a[4]);
            case "ways": {
                in(a[0], 0, 3);
                Horse horse = horse(a[1]);
                int come = 0;
                for (int w : sheet(a[0])) {
                    if (w < 0 || w > 3 || horse.ride.size() == 12) {
                        break;
                    }
                    horse.ride.add(w);
                    come++;
                }
                return come;
            }
            case "judge":
                in(a[0], 0, 3);
                horse(a[1]);
                for (int i = 0; i < sheet(a[0]).length; i++) {
                    if (sheets[a[0]][i] != now.ahead(i).horses.get(a[1]).cell) {
                        return i;
                    }
                }
                return sheets[a[0]].length;
            case "image":
                image = now.copy();
                return ++images;
            case "restore":
                need(image != null, 2);
                now = image.copy();
                return now.hour;
            case "tell":
                need(now.waiting.size() < 24, 4);
                now.waiting.add(a[0]);
                return now.waiting.size();
            case "check": {
                List<Integer> waited = now.waiting;
                now.waiting = new ArrayList<>();
                for (int i = 0; i < waited.size(); i++) {
                    if (waited.get(i) != now.ahead(i + 1).prints.size()) {
                        return 1 + i;
                    }
                }
                return 0;
            }
            case "count":
                in(a[0], 0, 7);
                return new int[] {now.horses.size(), now.hour, now.frost, now.prints.size(), now.tape.size(),
                    now.waiting.size(), trace.size(), now.z}[a[0]];
            case "told":
                in(a[0], 1, 6);
                return told[a[0]];
            default:
                throw new IllegalArgumentException(act);
        }
    }

    private int voice(int rider, int voice, int x) {
        Horse horse = horse(rider);
        in(voice, 0, 3);
        Plain one = kindOf(horse.kind);
        one.k = rider;
        one.m = horse.m;
        int said = switch (voice) {
            case 0 -> one.rides(x);
            case 1 -> one.shows(x);
            case 2 -> one.sinks(x);
            default -> one.parts(x);
        };
        trace = one.trace;
        return said;
    }

    private int move(int sheet, int i, int other, int j, int n) {
        in(sheet, 0, 3);
        in(other, 0, 3);
        need(sheets[sheet] != null && sheets[other] != null, 2);
        need(bits[sheet] == bits[other], 5);
        need(n >= 0 && i >= 0 && j >= 0, 1);
        need((long) i + n <= sheets[sheet].length && (long) j + n <= sheets[other].length, 1);
        int[] were = sheets[sheet].clone();
        for (int k = 0; k < n; k++) {
            sheets[other][j + k] = were[i + k];
        }
        return n;
    }
}
