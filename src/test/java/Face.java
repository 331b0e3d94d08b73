/** Calls an act of the program by its name. */
final class Face {
    private Face() {
    }

    static int call(ShodBackwards x, String act, long word, int... a) {
        return switch (act) {
            case "ground" -> x.ground(a[0], a[1]);
            case "frost" -> x.frost(a[0]);
            case "rider" -> x.rider(a[0], a[1]);
            case "riderIs" -> x.riderIs(a[0], a[1]);
            case "as" -> x.as(a[0], a[1]);
            case "set" -> x.set(a[0], a[1], a[2]);
            case "way" -> x.way(a[0], a[1]);
            case "halt" -> x.halt(a[0]);
            case "feed" -> x.feed(word, a[0]);
            case "text" -> x.text(a[0]);
            case "untell" -> x.untell(a[0]);
            case "hours" -> x.hours(a[0]);
            case "draws" -> x.draws(a[0]);
            case "seed" -> x.seed(a[0]);
            case "print" -> x.print(a[0], a[1]);
            case "cellIs" -> x.cellIs(a[0], a[1]);
            case "follow" -> x.follow(a[0], a[1], a[2], a[3]);
            case "then" -> x.then(a[0], a[1], a[2]);
            case "thenCell" -> x.thenCell(a[0], a[1], a[2]);
            case "loads" -> x.loads(a[0], a[1], a[2]);
            case "kinds" -> x.kinds(a[0], a[1], a[2]);
            case "leastFound" -> x.leastFound(a[0], a[1]);
            case "decoy" -> x.decoy(a[0], a[1], a[2]);
            case "rest" -> x.rest(a[0], a[1]);
            case "voice" -> x.voice(a[0], a[1], a[2]);
            case "body" -> x.body(a[0]);
            case "sheet" -> x.sheet(a[0], a[1], a[2]);
            case "put" -> x.put(a[0], a[1], a[2]);
            case "move" -> x.move(a[0], a[1], a[2], a[3], a[4]);
            case "ways" -> x.ways(a[0], a[1]);
            case "judge" -> x.judge(a[0], a[1]);
            case "image" -> x.image();
            case "restore" -> x.restore();
            case "tell" -> x.tell(a[0]);
            case "check" -> x.check();
            case "count" -> x.count(a[0]);
            case "told" -> x.told(a[0]);
            default -> throw new IllegalArgumentException(act);
        };
    }
}
