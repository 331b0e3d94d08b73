/** Promises 33 to 38: IMAGES, numbers that wait, what is told. */
public final class ImagesTest {
    public static void main(String[] args) {
        image();
        keepsAll();
        keepsRows();
        keepsNot();
        tell();
        check();
        count();
        told();
        Due.end();
    }

    private static void image() {
        ShodBackwards x = new ShodBackwards();
        Due.is("34 none", x.restore(), Due.NONE);
        x.hours(3);
        Due.is("33 once", x.image(), 1);
        x.hours(4);
        Due.is("34 hour", x.restore(), 3);
        Due.is("34 is hour", x.count(1), 3);
        x.hours(5);
        Due.is("34 stays", x.restore(), 3);
        x.hours(6);
        Due.is("33 twice", x.image(), 2);
        x.hours(1);
        Due.is("34 in place", x.restore(), 9);
        Due.is("33 not kept itself", x.image(), 3);
    }

    private static void keepsAll() {
        ShodBackwards x = new ShodBackwards();
        x.ground(1, 1);
        x.frost(2);
        x.rider(34, 0);
        x.set(0, 3, 11);
        x.set(0, 0, 0);
        Due.ride(x, 0, "ee");
        Due.text(x, 0, "2");
        Due.text(x, 1, "d");
        x.hours(1);
        x.seed(77);
        Due.feed(x, "12");
        x.tell(1);
        x.image();
        x.ground(1, 2);
        x.ground(2, 3);
        x.frost(0);
        x.rider(0, 0);
        x.set(0, 0, 5);
        x.set(0, 1, 9);
        x.set(0, 3, 99);
        Due.ride(x, 0, "s");
        x.untell(0);
        x.text(1);
        x.hours(20);
        x.draws(1);
        x.check();
        Due.is("34 hour", x.restore(), 1);
        int[] counts = {1, 1, 2, 1, 2, 1};
        for (int what = 0; what < 6; what++) {
            Due.is("34 count " + what, x.count(what), counts[what]);
        }
        Due.is("34 z", x.count(7), 77);
        int[] facts = {0, 4, 1, 11, 2, 1, 2, 1, 1, 1, -1};
        for (int what = 0; what < 11; what++) {
            Due.is("34 rider " + what, x.riderIs(0, what), facts[what]);
        }
        int[] print = {0, 1, 2, 0, 0};
        for (int what = 0; what < 5; what++) {
            Due.is("34 print " + what, x.print(0, what), print[what]);
        }
        Due.is("34 ground", x.cellIs(1, 0), 1);
        Due.is("34 ground", x.cellIs(2, 0), 0);
        Due.is("34 doubt", x.cellIs(0, 4), 2);
        Due.feed(x, "+1");
        Due.is("34 the tape", x.text(1), 1);
        Due.is("34 the tape's text", x.cellIs(0, 4), 13);
        x.set(0, 0, 6);
        x.hours(1);
        Due.is("34 shoes", x.print(1, 1), 2);
        Due.is("34 waits", x.restore(), 1);
        Due.is("34 waits", x.check(), 1);
        Due.is("34 the image has no check", x.restore(), 1);
        Due.is("34 waits again", x.count(5), 1);
        x.halt(0);
        Due.is("34 so it is", x.check(), 0);
    }

    /** THE TAPE's bytes and the numbers that wait, not only how many there are. */
    private static void keepsRows() {
        ShodBackwards x = new ShodBackwards();
        Due.feed(x, "8*4");
        x.tell(0);
        x.tell(0);
        x.tell(7);
        x.image();
        x.text(1);
        x.check();
        Due.feed(x, "aaaaaaaa");
        x.tell(7);
        x.tell(7);
        x.tell(7);
        x.restore();
        Due.is("34 bytes", x.text(1), 1);
        Due.is("34 bytes", x.cellIs(0, 4), 32);
        Due.is("34 numbers", x.check(), 3);
    }

    private static void keepsNot() {
        ShodBackwards x = new ShodBackwards();
        x.rider(0, 0);
        Due.sheet(x, 0, 8, 1, 1, 1, 1);
        x.voice(0, 0, 1);
        x.image();
        Due.sheet(x, 0, 8, 2, 2, 2, 2);
        x.sheet(1, 16, 2);
        x.voice(0, 2, 1);
        x.ground(36, 0);
        x.restore();
        Due.is("34 sheet stays", x.rest(0, 3), 2);
        Due.is("34 sheet stays there", x.put(1, 1, 1), 1);
        Due.is("34 trace stays", x.count(6), 3);
        Due.is("34 told stays", x.told(1), 1);
        x.sheet(1, 0, 0);
        x.restore();
        Due.is("34 sheet stays away", x.put(1, 1, 1), Due.NONE);
    }

    private static void tell() {
        ShodBackwards x = new ShodBackwards();
        for (int i = 0; i < 24; i++) {
            Due.is("35 how many", x.tell(i == 0 ? Integer.MIN_VALUE : 0), i + 1);
        }
        Due.is("35 full", x.tell(0), Due.FULL);
        Due.is("35 still", x.count(5), 24);
        Due.is("36 the first isn't so", x.check(), 1);
        Due.is("36 none wait", x.count(5), 0);
        for (int i = 0; i < 24; i++) {
            x.tell(i == 23 ? 1 : 0);
        }
        Due.is("36 the last isn't so", x.check(), 24);
        Due.is("35 anew", x.tell(0), 1);
    }

    private static void check() {
        ShodBackwards x = new ShodBackwards();
        Due.is("36 none wait", x.check(), 0);
        x.rider(0, 0);
        x.ground(1, 2);
        Due.ride(x, 0, "eess");
        x.hours(1);
        int[] seen = {2, 2, 3, 3, 3, 3, 3, 3, 2, 2, 1, 0, 0};
        for (int places = 0; places <= seen.length; places++) {
            for (int i = 0; i < seen.length; i++) {
                x.tell(seen[i] + (i == places ? 1 : 0) + (i == places + 2 ? 1 : 0));
            }
            Due.is("36 place " + places, x.check(), places == seen.length ? 0 : 1 + places);
            Due.is("36 none do then", x.count(5), 0);
        }
        Due.is("36 no hour", x.count(1), 1);
        Due.is("36 no print", x.count(3), 1);
    }

    private static void count() {
        ShodBackwards x = new ShodBackwards();
        x.rider(0, 0);
        x.rider(0, 0);
        x.way(1, 1);
        x.hours(3);
        x.frost(7);
        x.feed(0L, 5);
        for (int i = 0; i < 6; i++) {
            x.tell(i);
        }
        x.voice(0, 1, 1);
        x.seed(Due.STATE);
        int[] want = {2, 3, 7, 1, 5, 6, 2, Due.STATE};
        for (int what = 0; what < 8; what++) {
            Due.is("37 " + what, x.count(what), want[what]);
        }
        Due.is("37 z is no error", x.told(3), 0);
        for (int what : new int[] {Integer.MIN_VALUE, -1, 8, Integer.MAX_VALUE}) {
            Due.is("37 what " + what, x.count(what), Due.BEYOND);
        }
    }

    private static void told() {
        ShodBackwards x = new ShodBackwards();
        x.restore();
        x.sheet(0, 8, -1);
        x.sheet(0, 8, -1);
        for (int i = 0; i < 8; i++) {
            x.rider(1, 0);
        }
        x.as(0, 1);
        x.as(0, 2);
        x.as(0, 3);
        x.as(0, 4);
        x.voice(1, 3, 0);
        x.voice(1, 3, 0);
        x.voice(1, 3, 0);
        x.voice(1, 3, 0);
        x.voice(1, 3, 0);
        int[] want = {0, 1, 2, 3, 4, 5};
        for (int k = 1; k <= 6; k++) {
            Due.is("38 " + k, x.told(k), want[k - 1]);
        }
        int[] bad = {Integer.MIN_VALUE, -1, 0, 7, Integer.MAX_VALUE};
        for (int k : bad) {
            Due.is("38 k " + k, x.told(k), Due.BEYOND);
        }
        Due.is("38 counted, too", x.told(1), 5);
        x.text(0);
        Due.is("38 a fault is no error", x.told(1), 5);
    }
}
