import java.util.Random;

/** Long runs of calls, each answer held against the Model's; no call may throw. The runs are the same each time. */
public final class FuzzTest {
    private static final String[] ACTS = {
        "ground:cg", "frost:f", "rider:kc", "riderIs:ri", "as:rt", "set:rsv", "way:rw", "way:rw", "way:rw", "halt:r",
        "feed:n", "text:u", "untell:u", "hours:h", "hours:h", "draws:h", "seed:x", "print:pd", "cellIs:cd",
        "follow:cuqu", "then:hri", "thenCell:hcd", "loads:pko", "kinds:rcH", "leastFound:rh", "decoy:rhc", "rest:Sd",
        "voice:rwx", "body:d", "sheet:Sbm", "put:Sjx", "move:SjSjj", "ways:Sr", "judge:Sr", "image:", "restore:",
        "tell:p", "check:", "count:d", "count:g", "told:d"};
    private static final int[] EDGES = {Integer.MIN_VALUE, -1000000001, -1, 0, 1, 36, 40, 100, Integer.MAX_VALUE};
    private static final String SIGNS = "wsmgnda0123456789!(()|&<=>+-*/%   xZ";

    private final Random random;
    private final ShodBackwards x = new ShodBackwards();
    private final Model model = new Model();
    private final int odd;

    private FuzzTest(int seed) {
        random = new Random(seed);
        odd = new int[] {4, 25, 200}[seed % 3];
    }

    public static void main(String[] args) {
        int runs = args.length > 0 ? Integer.parseInt(args[0]) : 400;
        for (int seed = 0; seed < runs; seed++) {
            new FuzzTest(seed).run(seed);
        }
        texts();
        Due.end();
    }

    private void run(int seed) {
        int calls = 0;
        while (calls < 480) {
            if (random.nextInt(14) == 0) {
                calls += tellText(seed);
                continue;
            }
            if (random.nextInt(60) == 0) {
                calls += bargain(seed);
                continue;
            }
            String act = ACTS[random.nextInt(ACTS.length)];
            int colon = act.indexOf(':');
            int[] a = new int[act.length() - colon - 1];
            for (int i = 0; i < a.length; i++) {
                a[i] = argument(act.charAt(colon + 1 + i));
            }
            ask(seed, act.substring(0, colon), random.nextLong(), a);
            calls++;
        }
    }

    private void ask(int seed, String act, long word, int... a) {
        StringBuilder call = new StringBuilder().append("fuzz ").append(seed).append(": ").append(act);
        for (int v : a) {
            call.append(' ').append(v);
        }
        Due.is(call.toString(), Face.call(x, act, word, a), model.call(act, word, a));
    }

    private int argument(char sort) {
        if (random.nextInt(odd) == 0) {
            return EDGES[random.nextInt(EDGES.length)];
        }
        return switch (sort) {
            case 'c' -> random.nextInt(36);
            case 'g', 's' -> random.nextInt(7) % 6;
            case 'f' -> random.nextInt(10);
            case 'k' -> random.nextInt(70);
            case 'r' -> random.nextInt(6) % 5;
            case 'i' -> random.nextInt(21);
            case 't' -> random.nextInt(7);
            case 'v' -> random.nextInt(random.nextBoolean() ? 10 : 100);
            case 'w' -> random.nextInt(4);
            case 'n' -> 1 + random.nextInt(8);
            case 'u' -> random.nextInt(2);
            case 'h' -> random.nextInt(random.nextBoolean() ? 4 : 26);
            case 'H' -> Math.max(0, x.count(1) - random.nextInt(14));
            case 'x' -> random.nextBoolean() ? random.nextInt(40) - 5 : random.nextInt();
            case 'p' -> random.nextInt(random.nextBoolean() ? 8 : 41);
            case 'd' -> random.nextInt(8);
            case 'q' -> random.nextInt(41);
            case 'o' -> random.nextInt(3);
            case 'S' -> random.nextInt(9) % 4;
            case 'b' -> new int[] {0, 8, 8, 16, 16, 32, 32, 32, 7}[random.nextInt(9)];
            case 'm' -> random.nextInt(27) - 1;
            default -> random.nextInt(random.nextBoolean() ? 5 : 25);
        };
    }

    private int tellText(int seed) {
        int use = random.nextInt(2);
        if (x.count(4) > 0) {
            ask(seed, "text", 0, 1 - use);
        }
        String text = made(random, use == 0 ? "wsmg" : "nda", 3);
        int fed = 0;
        for (int i = 0; i < text.length() && i < 60; i++) {
            ask(seed, "feed", text.charAt(i), 1);
            fed++;
        }
        ask(seed, "text", 0, use);
        return fed + 3;
    }

    private int bargain(int seed) {
        int sheet = random.nextInt(4);
        ask(seed, "sheet", 0, sheet, 16 + 16 * random.nextInt(2), 4);
        int wide = random.nextBoolean() ? 6 : 1000;
        for (int i = 0; i < 4; i++) {
            ask(seed, "put", 0, sheet, i, random.nextInt(2 * wide - 1) - wide + 1);
        }
        for (int what = 0; what < 5; what++) {
            ask(seed, "rest", 0, sheet, what);
        }
        return 10;
    }

    private static String made(Random random, String names, int deep) {
        int sort = random.nextInt(deep > 0 ? 9 : 3);
        if (sort == 0) {
            return String.valueOf(random.nextInt(random.nextBoolean() ? 10 : 9999));
        }
        if (sort < 3) {
            return String.valueOf(names.charAt(random.nextInt(names.length())));
        }
        if (sort == 3) {
            return "!" + made(random, names, 0);
        }
        if (sort == 4) {
            return "(" + made(random, names, deep - 1) + ")";
        }
        return made(random, names, deep - 1) + "|&<=>+-*/%+-*".charAt(random.nextInt(13)) + made(random, names, deep - 1);
    }

    /** TEXTS good and bad alone: a FAULT needs many of them. */
    private static void texts() {
        Random random = new Random(7);
        for (int i = 0; i < 40000; i++) {
            StringBuilder text = new StringBuilder(made(random, "nda", 4));
            int changes = random.nextInt(4);
            for (int c = 0; c < changes; c++) {
                int at = random.nextInt(text.length() + 1);
                char sign = SIGNS.charAt(random.nextInt(SIGNS.length()));
                if (at < text.length() && random.nextBoolean()) {
                    text.setCharAt(at, sign);
                } else {
                    text.insert(at, sign);
                }
            }
            text.setLength(Math.min(60, text.length()));
            ShodBackwards x = new ShodBackwards();
            String told = text.toString();
            int fault = Model.fault(told, "nda");
            Due.is("fuzz: " + told, Due.text(x, 1, told), fault < 0 ? 1 : -10 - fault);
            if (fault < 0) {
                int worth = Model.worth(told, "nda", 0, 0, 99);
                Due.is("fuzz: worth of " + told, x.cellIs(0, 4), Math.max(0, Math.min(99, worth)));
            }
        }
    }
}
