/** Promises 26 to 38: a test for each sentence of the document that names an edge; the sentence stands ahead of it. */
public final class EdgesOfSheetsTest {
    public static void main(String[] args) {
        voicesWrap();
        quotientsAreCut();
        partedOnlyThen();
        traceOfTheLatest();
        noSuchBody();
        sheetSizes();
        sheetMissing();
        sheetAnew();
        putLowestBits();
        moveAsTheyWere();
        moveNone();
        moveToTheEnd();
        waysUpToTheFirst();
        waysIntoAFullRide();
        judgeFirst();
        imageInPlace();
        imageKeepsNoSheets();
        restoreTwice();
        restoreLate();
        tellAny();
        checkNoneToAll();
        countAny();
        toldEach();
        Due.end();
    }

    private static ShodBackwards one(int km) {
        ShodBackwards x = new ShodBackwards();
        x.rider(km, 0);
        return x;
    }

    /** "(ints that wrap)". RIDER 0: k is 0. */
    private static void voicesWrap() {
        int most = Integer.MAX_VALUE;
        int least = Integer.MIN_VALUE;
        Due.is("26 rides", one(0).voice(0, 0, most), most);
        Due.is("26 shows", one(0).voice(0, 1, most), -2);
        Due.is("26 shows", one(0).voice(0, 1, least), 0);
        Due.is("26 sinks", one(3).voice(0, 2, least), -3);
        Due.is("26 sinks", one(3).voice(0, 2, 1073741824), most - 2);
        Due.is("26 turned rides", one(10).voice(0, 0, least), most - 6);
        Due.is("26 doubled rides", one(40).voice(0, 0, least + 7), least);
        Due.is("26 doubled rides", one(40).voice(0, 0, most), (most - 7) * 3);
        Due.is("26 lame shows", one(20).voice(0, 1, 1073741824), least);
        Due.is("26 sledge shows", one(50).voice(0, 1, most), 0);
        Due.is("26 told shows", one(69).voice(0, 1, most), 19);
        Due.is("26 turned parts", one(11).voice(0, 3, most), most - 12);
        ShodBackwards x = one(0);
        x.rider(0, 0);
        Due.is("26 rides", x.voice(1, 0, most), least);
        Due.is("26 parts by -1", x.voice(1, 3, least), least);
        for (int v : new int[] {Due.BEYOND, Due.NONE, Due.PARTED}) {
            Due.is("26 no error", x.voice(0, 0, v), v);
        }
        for (int k = 1; k <= 6; k++) {
            Due.is("26 none told", x.told(k), 0);
        }
    }

    /** "Quotients are cut toward 0". */
    private static void quotientsAreCut() {
        Due.is("26 7 by 2", one(2).voice(0, 3, 7), 3);
        Due.is("26 -7 by 2", one(2).voice(0, 3, -7), -3);
        Due.is("26 1 by 9", one(9).voice(0, 3, 1), 0);
        Due.is("26 -1 by 9", one(9).voice(0, 3, -1), 0);
        Due.is("26 0 by 9", one(9).voice(0, 3, 0), 0);
        Due.is("26 walker, 1 by 2", one(30).voice(0, 2, 1), 0);
        Due.is("26 walker, -1 by 2", one(30).voice(0, 2, -1), 0);
        Due.is("26 walker, -3 by 2", one(30).voice(0, 2, -3), -2);
        Due.is("26 walker, least by 2", one(30).voice(0, 2, Integer.MIN_VALUE), Integer.MIN_VALUE);
        ShodBackwards x = one(0);
        x.rider(0, 0);
        x.rider(0, 0);
        Due.is("26 7 by -2", x.voice(2, 3, 7), -3);
        Due.is("26 -7 by -2", x.voice(2, 3, -7), 3);
    }

    /** "PARTED if that is 0; that is all that voice() answers then": m is k, and only of parts. */
    private static void partedOnlyThen() {
        for (int kind = 0; kind < 7; kind++) {
            ShodBackwards x = new ShodBackwards();
            for (int k = 0; k < 5; k++) {
                x.rider(10 * kind + k, 0);
            }
            int parted = 0;
            for (int k = 0; k < 5; k++) {
                for (int v : new int[] {Integer.MIN_VALUE, -1, 0, 1, Integer.MAX_VALUE}) {
                    Due.is("26 parted " + kind, x.voice(k, 3, v), Due.PARTED);
                    parted++;
                    Due.is("38 counted", x.told(6), parted);
                }
                for (int voice = 0; voice < 3; voice++) {
                    Due.is("26 no other voice", x.voice(k, voice, 5) == Due.PARTED ? 1 : 0, 0);
                }
                x.set(k, 1, k + 1);
                Due.is("26 no other m", x.voice(k, 3, 5) == Due.PARTED ? 1 : 0, 0);
                x.set(k, 1, k);
            }
            Due.is("38 no other error", x.told(1), 0);
        }
    }

    /** "THE TRACE: .. of the latest voice()": one that was refused is none; "changes nothing". */
    private static void traceOfTheLatest() {
        ShodBackwards x = one(40);
        x.rider(1, 0);
        Due.is("37 none at first", x.count(6), 0);
        x.voice(0, 3, 9);
        Due.is("26 parted of m 0, k 0", x.told(6), 1);
        Due.is("37 none still", x.count(6), 0);
        x.voice(0, 2, 9);
        int[] bodies = {51, 12, 11, 50, 20, 10};
        Due.is("26 no such rider", x.voice(2, 0, 1), Due.BEYOND);
        Due.is("26 no such voice", x.voice(0, 4, 1), Due.BEYOND);
        Due.is("26 no such voice", x.voice(0, -1, 1), Due.BEYOND);
        Due.is("26 parted", x.voice(1, 3, 1), Due.PARTED);
        Due.is("26 parted", x.voice(0, 3, 1), Due.PARTED);
        Due.is("37 six", x.count(6), 6);
        for (int i = 0; i < 6; i++) {
            Due.is("27 body " + i, x.body(i), bodies[i]);
        }
        x.voice(1, 0, 9);
        Due.is("37 one", x.count(6), 1);
        Due.is("27 the latest", x.body(0), 10);
        Due.is("27 no longer", x.body(1), Due.NONE);
    }

    /** "NONE: there is none such". */
    private static void noSuchBody() {
        ShodBackwards x = one(1);
        for (int voice = 0; voice < 3; voice++) {
            x.voice(0, voice, 1);
            Due.is("27 the first", x.body(0), 10 + voice);
            Due.is("27 the last", x.body(voice), 10);
            for (int i : new int[] {Integer.MIN_VALUE, -1, voice + 1, 6, 29, 30, 31, Integer.MAX_VALUE}) {
                Due.is("27 none " + i, x.body(i), Due.NONE);
            }
        }
        Due.is("38 told", x.told(2), 24);
    }

    /** "at most 24 numbers"; "STATE: n is below 0 (ahead of BEYOND of n)". */
    private static void sheetSizes() {
        for (int bits : new int[] {8, 16, 32}) {
            ShodBackwards x = new ShodBackwards();
            for (int n = 0; n <= 24; n++) {
                Due.is("28 n " + n, x.sheet(3, bits, n), 1);
                Due.is("29 one below", x.put(3, -1, 0), Due.BEYOND);
                Due.is("29 the first", x.put(3, 0, 0), n == 0 ? Due.BEYOND : 1);
                Due.is("29 the last", x.put(3, n - 1, 0), n == 0 ? Due.BEYOND : 1);
                Due.is("29 one above", x.put(3, n, 0), Due.BEYOND);
            }
            Due.is("28 25", x.sheet(3, bits, 25), Due.BEYOND);
            Due.is("28 -1", x.sheet(3, bits, -1), Due.STATE);
            Due.is("28 least", x.sheet(3, bits, Integer.MIN_VALUE), Due.STATE);
            Due.is("28 greatest", x.sheet(3, bits, Integer.MAX_VALUE), Due.BEYOND);
            Due.is("29 24 still", x.put(3, 23, 0), 1);
        }
    }

    /** "0: it is missing, n doesn't matter"; "or missing (as at first)". */
    private static void sheetMissing() {
        for (int n : new int[] {Integer.MIN_VALUE, -1, 0, 24, 25, Integer.MAX_VALUE}) {
            ShodBackwards x = one(0);
            for (int sheet = 0; sheet < 4; sheet++) {
                Due.is("28 missing at first", x.put(sheet, 0, 0), Due.NONE);
                Due.is("28 missing still", x.sheet(sheet, 0, n), 1);
                Due.is("28 missing still", x.put(sheet, 0, 0), Due.NONE);
                x.sheet(sheet, 16, 4);
                Due.is("28 is there", x.rest(sheet, 0), 1);
                Due.is("28 another", x.put((sheet + 1) % 4, 0, 0), Due.NONE);
                Due.is("28 missing, n " + n, x.sheet(sheet, 0, n), 1);
                Due.is("25 missing", x.rest(sheet, 0), Due.NONE);
                Due.is("30 missing", x.move(sheet, 0, sheet, 0, 0), Due.NONE);
                Due.is("31 missing", x.ways(sheet, 0), Due.NONE);
                Due.is("32 missing", x.judge(sheet, 0), Due.NONE);
            }
            Due.is("28 no state", x.told(3), 0);
        }
    }

    /** "A SHEET has n numbers, all 0": one that was there before, too. */
    private static void sheetAnew() {
        ShodBackwards x = new ShodBackwards();
        for (int bits : new int[] {8, 16, 32}) {
            Due.sheet(x, 0, bits, 9, 9, 9, 9);
            Due.is("28 nines", x.rest(0, 3), 9);
            x.sheet(0, bits, 4);
            Due.is("28 all 0", x.rest(0, 3), 0);
            Due.sheet(x, 0, bits, 9, 9, 9, 9);
            x.sheet(0, bits, 3);
            Due.is("28 three", x.rest(0, 3), Due.NONE);
            x.sheet(0, bits, 4);
            Due.is("28 all 0, and plain", x.rest(0, 0), 1);
            Due.is("28 all 0", x.rest(0, 3), 0);
        }
        Due.sheet(x, 0, 8, 7, 7, 7, 7);
        Due.is("28 refused", x.sheet(0, 16, 25), Due.BEYOND);
        Due.is("28 stays", x.rest(0, 3), 7);
        x.sheet(1, 8, 1);
        Due.is("28 of 8 bits still", x.move(0, 0, 1, 0, 1), 1);
    }

    /** What comes of a number in a SHEET of so many bits, if it is -999 .. 999. */
    private static int put(int bits, int v) {
        ShodBackwards x = new ShodBackwards();
        Due.sheet(x, 0, bits, v, v, v, v);
        return x.rest(0, 3);
    }

    /** "becomes v (its lowest bits)". */
    private static void putLowestBits() {
        int[][] eight = {{127, 127}, {128, -128}, {255, -1}, {256, 0}, {257, 1}, {-128, -128}, {-129, 127},
            {-256, 0}, {-257, -1}, {Integer.MIN_VALUE, 0}, {Integer.MAX_VALUE, -1}, {0x7fffff80, -128}};
        for (int[] e : eight) {
            Due.is("29 8 bits of " + e[0], put(8, e[0]), e[1]);
        }
        int[][] sixteen = {{255, 255}, {65535, -1}, {65536, 0}, {65537, 1}, {-65536, 0}, {-65537, -1},
            {Integer.MIN_VALUE, 0}, {Integer.MAX_VALUE, -1}, {65536 + 999, 999}, {65536 - 999, -999},
            {32767, Due.BEYOND}, {32768, Due.BEYOND}, {-32768, Due.BEYOND}};
        for (int[] s : sixteen) {
            Due.is("29 16 bits of " + s[0], put(16, s[0]), s[1]);
        }
        int[][] all = {{255, 255}, {999, 999}, {-999, -999}, {65536, Due.BEYOND}, {65535, Due.BEYOND},
            {Integer.MIN_VALUE, Due.BEYOND}, {Integer.MAX_VALUE, Due.BEYOND}, {-1, -1}};
        for (int[] a : all) {
            Due.is("29 32 bits of " + a[0], put(32, a[0]), a[1]);
        }
        // A number of 32 bits that would be a CELL by fewer bits is none.
        ShodBackwards x = one(0);
        for (int v : new int[] {256, 65536, 1 << 24, Integer.MIN_VALUE}) {
            Due.sheet(x, 0, 32, v);
            Due.is("32 " + v + " is no cell", x.judge(0, 0), 0);
            Due.is("31 " + v + " is no way", x.ways(0, 0), 0);
            Due.sheet(x, 0, 8, v);
            Due.is("32 0 is the cell", x.judge(0, 0), 1);
        }
    }

    private static void holds(ShodBackwards x, int sheet, int bits, int... want) {
        for (int i = 0; i < want.length; i++) {
            x.sheet(3, bits, 4);
            for (int j = 0; j < 4; j++) {
                x.move(sheet, i, 3, j, 1);
            }
            Due.is("30 number " + i, x.rest(3, 3), want[i]);
        }
    }

    /** "n numbers of a SHEET .. come to another one (or the same) .., as they all were". */
    private static void moveAsTheyWere() {
        ShodBackwards x = new ShodBackwards();
        Due.sheet(x, 0, 8, 1, 2, 3, 4, 5, 6);
        Due.is("30 up by one", x.move(0, 0, 0, 1, 5), 5);
        holds(x, 0, 8, 1, 1, 2, 3, 4, 5);
        Due.sheet(x, 0, 8, 1, 2, 3, 4, 5, 6);
        Due.is("30 down by one", x.move(0, 1, 0, 0, 5), 5);
        holds(x, 0, 8, 2, 3, 4, 5, 6, 6);
        Due.sheet(x, 0, 8, 1, 2, 3, 4, 5, 6);
        Due.is("30 up by two", x.move(0, 0, 0, 2, 4), 4);
        holds(x, 0, 8, 1, 2, 1, 2, 3, 4);
        ShodBackwards y = new ShodBackwards();
        Due.sheet(y, 0, 8, 1, 2, 3, 4, 5, 6);
        Due.is("30 down by two", y.move(0, 2, 0, 0, 4), 4);
        holds(y, 0, 8, 3, 4, 5, 6, 5, 6);
        Due.is("30 onto themselves", y.move(0, 0, 0, 0, 6), 6);
        holds(y, 0, 8, 3, 4, 5, 6, 5, 6);
        for (int bits : new int[] {16, 32}) {
            ShodBackwards z = new ShodBackwards();
            Due.sheet(z, 1, bits, 300, -300, 999);
            Due.sheet(z, 2, bits, 1, 2, 3, 4, 5);
            Due.is("30 to another", z.move(1, 0, 2, 1, 3), 3);
            holds(z, 2, bits, 1, 300, -300, 999, 5);
            holds(z, 1, bits, 300, -300, 999);
        }
    }

    /** n is 0: from any place up to the end, to any place up to the end. */
    private static void moveNone() {
        ShodBackwards x = new ShodBackwards();
        Due.sheet(x, 0, 8, 1, 2, 3);
        x.sheet(1, 8, 0);
        for (int i = 0; i <= 3; i++) {
            Due.is("30 none from " + i, x.move(0, i, 1, 0, 0), 0);
            Due.is("30 none to " + i, x.move(1, 0, 0, i, 0), 0);
        }
        Due.is("30 none from behind it", x.move(0, 4, 1, 0, 0), Due.BEYOND);
        Due.is("30 none to behind it", x.move(1, 0, 0, 4, 0), Due.BEYOND);
        Due.is("30 of an empty one", x.move(1, 0, 0, 0, 1), Due.BEYOND);
        Due.is("30 to an empty one", x.move(0, 0, 1, 0, 1), Due.BEYOND);
        holds(x, 0, 8, 1, 2, 3);
    }

    /** "or they don't stand there": the last place that does, and the first that doesn't, of each SHEET. */
    private static void moveToTheEnd() {
        ShodBackwards x = new ShodBackwards();
        x.sheet(0, 8, 24);
        x.sheet(1, 8, 10);
        for (int n = 0; n <= 10; n++) {
            Due.is("30 to the end of both", x.move(0, 24 - n, 1, 10 - n, n), n);
            Due.is("30 to the end of both", x.move(1, 10 - n, 0, 24 - n, n), n);
            Due.is("30 one too far", x.move(0, 25 - n, 1, 0, n), Due.BEYOND);
            Due.is("30 one too far", x.move(0, 0, 1, 11 - n, n), Due.BEYOND);
            Due.is("30 one too far", x.move(1, 11 - n, 0, 0, n), Due.BEYOND);
        }
        Due.is("30 all", x.move(0, 0, 0, 0, 24), 24);
        Due.is("30 more than all", x.move(0, 0, 0, 0, 25), Due.BEYOND);
        Due.is("30 more than there is room for", x.move(0, 0, 1, 0, 11), Due.BEYOND);
        Due.is("30 more than there are", x.move(1, 0, 0, 0, 11), Due.BEYOND);
    }

    /** "how many, up to the first that way() would refuse (no ERROR then)": a number that is no WAY. */
    private static void waysUpToTheFirst() {
        for (int bad : new int[] {-1, 4, -128, 127}) {
            for (int place = 0; place < 5; place++) {
                ShodBackwards x = one(0);
                Due.sheet(x, 0, 8, 3, 2, 1, 0, 3);
                x.put(0, place, bad);
                Due.is("31 up to place " + place, x.ways(0, 0), place);
                Due.is("31 so many", x.riderIs(0, 4), place);
                for (int i = 0; i < place; i++) {
                    Due.is("31 as they are", x.riderIs(0, 8 + i), new int[] {3, 2, 1, 0}[i]);
                }
                Due.is("31 no error", x.told(1), 0);
                x.put(0, place, 2);
                Due.is("31 all", x.ways(0, 0), 5);
                Due.is("31 behind the ride", x.riderIs(0, 4), place + 5);
            }
        }
        ShodBackwards x = one(0);
        x.sheet(0, 32, 0);
        Due.is("31 of an empty one", x.ways(0, 0), 0);
        x.sheet(0, 32, 24);
        Due.is("31 of 24", x.ways(0, 0), 12);
        Due.is("31 no error", x.told(4), 0);
    }

    /** The same: a RIDE that is full. */
    private static void waysIntoAFullRide() {
        for (int there = 0; there <= 12; there++) {
            ShodBackwards x = one(0);
            for (int i = 0; i < there; i++) {
                x.way(0, 1);
            }
            x.sheet(2, 16, 5);
            Due.is("31 onto " + there, x.ways(2, 0), Math.min(5, 12 - there));
            Due.is("31 ride", x.riderIs(0, 4), Math.min(12, there + 5));
            Due.is("31 no error", x.told(4), 0);
            Due.is("8 room", x.way(0, 3), there >= 7 ? Due.FULL : there + 6);
        }
    }

    /** "behind 0, 1, .. HOURS AHEAD: the first that isn't so; as many as there are: none". */
    private static void judgeFirst() {
        ShodBackwards x = one(0);
        Due.ride(x, 0, "eeeeesssssww");
        int[] cells = {0, 1, 2, 3, 4, 5, 11, 17, 23, 29, 35, 34, 33};
        for (int n = 0; n <= 24; n++) {
            x.sheet(0, 8, n);
            for (int i = Math.max(0, n - 1); i < n; i++) {
                x.put(0, i, 99);
            }
            Due.is("32 of " + n, x.judge(0, 0), n < 2 ? 0 : 1);
        }
        x.sheet(1, 16, 24);
        for (int i = 0; i < 24; i++) {
            x.put(1, i, cells[Math.min(i, 12)]);
        }
        Due.is("32 none", x.judge(1, 0), 24);
        for (int i = 23; i >= 0; i--) {
            x.put(1, i, 36);
            Due.is("32 the first", x.judge(1, 0), i);
        }
        x.sheet(2, 32, 1);
        Due.is("32 one that is so", x.judge(2, 0), 1);
        x.sheet(2, 32, 0);
        Due.is("32 of an empty one", x.judge(2, 0), 0);
        Due.is("37 no hour", x.count(1), 0);
    }

    /** "in place of one ahead: how often that was done". */
    private static void imageInPlace() {
        ShodBackwards x = new ShodBackwards();
        Due.is("34 none", x.restore(), Due.NONE);
        Due.is("34 none, told", x.told(2), 1);
        for (int i = 1; i <= 20; i++) {
            Due.is("33 so often", x.image(), i);
            x.hours(1);
            Due.is("34 hour", x.restore(), i - 1);
            x.hours(1);
        }
        Due.is("34 the last one", x.restore(), 19);
        Due.is("33 restore() doesn't count back", x.image(), 21);
    }

    /** "All (but SHEETS, THE TRACE, what told() tells, and how often this was done)". */
    private static void imageKeepsNoSheets() {
        ShodBackwards x = one(0);
        x.image();
        x.image();
        Due.sheet(x, 0, 8, 5, 5, 5, 5);
        x.voice(0, 2, 1);
        x.rider(0, 99);
        x.tell(1);
        x.restore();
        Due.is("34 the sheet stays", x.rest(0, 3), 5);
        Due.is("34 the trace stays", x.body(0), 12);
        Due.is("34 told stays", x.told(1), 1);
        Due.is("33 how often stays", x.image(), 3);
        Due.is("34 no number waits", x.count(5), 0);
    }

    /** "All is as the IMAGE has it, which stays": changes behind a restore() don't come into it. */
    private static void restoreTwice() {
        ShodBackwards x = one(0);
        Due.ride(x, 0, "ee");
        x.hours(1);
        Due.feed(x, "1+");
        x.tell(2);
        x.image();
        for (int k = 0; k < 3; k++) {
            x.ground(0, 3);
            x.ground(35, 3);
            x.frost(9);
            x.rider(11, 7);
            x.set(0, 3, 99);
            Due.ride(x, 0, "ss");
            x.hours(3);
            x.draws(2);
            x.tell(7);
            Due.is("34 a text of the tape", Due.text(x, 1, "1"), 1);
            Due.is("34 hour", x.restore(), 1);
            Due.is("34 print", x.print(0, 0), 0);
            Due.is("34 one print", x.count(3), 1);
            Due.is("34 peat", x.cellIs(0, 0) + x.cellIs(35, 0), 0);
            Due.is("34 no frost", x.count(2), 0);
            Due.is("34 one rider", x.riderIs(1, 0), Due.BEYOND);
            Due.is("34 no load", x.riderIs(0, 3), 0);
            Due.is("34 two ways", x.riderIs(0, 4), 2);
            Due.is("34 z", x.count(7), 1);
            Due.is("34 no text", x.cellIs(0, 4), 1);
            Due.is("34 tape", x.count(4), 2);
            Due.is("34 waits", x.count(5), 1);
        }
        Due.is("4 the next rider is as at first", x.rider(0, 3), 1);
        Due.is("5 no ride", x.riderIs(1, 4), 0);
        Due.is("5 no m", x.riderIs(1, 1), 0);
    }

    /** "HOUR": the IMAGE's, at the last HOUR, too. */
    private static void restoreLate() {
        ShodBackwards x = Twins.makeLate();
        Due.is("33 one", x.image(), 1);
        x.halt(0);
        Due.is("34 the last hour", x.restore(), 9999);
        Due.is("13 none goes by", x.hours(1), Due.STATE);
        Due.is("5 the ride", x.riderIs(0, 4), 3);
    }

    /** "One more number waits: how many. FULL: 24 wait." */
    private static void tellAny() {
        ShodBackwards x = new ShodBackwards();
        int[] any = {Integer.MIN_VALUE, Due.BEYOND, -1, 0, 41, Integer.MAX_VALUE};
        for (int round = 0; round < 2; round++) {
            for (int i = 0; i < 24; i++) {
                Due.is("35 how many", x.tell(any[i % 6]), i + 1);
            }
            Due.is("35 full", x.tell(0), Due.FULL);
            Due.is("35 full", x.tell(Integer.MIN_VALUE), Due.FULL);
            Due.is("37 24", x.count(5), 24);
            Due.is("36 the first isn't so", x.check(), 1);
            Due.is("37 none", x.count(5), 0);
        }
        Due.is("38 told", x.told(4), 4);
    }

    /** "(none do then) .. : 0; else 1 and the place of the first that isn't so": 0, 1, 24 numbers. */
    private static void checkNoneToAll() {
        ShodBackwards x = one(0);
        Due.ride(x, 0, "eeeee");
        int[] seen = new int[24];
        for (int i = 0; i < 24; i++) {
            seen[i] = Math.max(0, Math.min(5, i + 1) - Math.max(0, i - 8));
        }
        Due.is("36 none wait", x.check(), 0);
        Due.is("36 none wait, told nothing", x.told(2), 0);
        x.tell(1);
        Due.is("36 one", x.check(), 0);
        x.tell(0);
        Due.is("36 one that isn't so", x.check(), 1);
        Due.is("36 it is gone", x.check(), 0);
        for (int wrong = 21; wrong <= 24; wrong++) {
            for (int i = 0; i < 24; i++) {
                x.tell(i >= wrong ? 6 : seen[i]);
            }
            Due.is("36 wrong from " + wrong, x.check(), wrong == 24 ? 0 : wrong + 1);
        }
        Due.is("37 no hour", x.count(1), 0);
        Due.is("37 no print", x.count(3), 0);
    }

    /** "7 z (any number)": what looks like an ERROR is none. */
    private static void countAny() {
        ShodBackwards x = new ShodBackwards();
        for (int z : new int[] {Due.BEYOND, Due.STATE, Integer.MIN_VALUE, Integer.MAX_VALUE, 0}) {
            x.seed(z);
            Due.is("37 z", x.count(7), z);
        }
        Due.is("38 none told", x.told(1), 0);
        Due.is("37 -1", x.count(-1), Due.BEYOND);
        Due.is("37 8", x.count(8), Due.BEYOND);
        Due.is("38 both told", x.told(1), 2);
    }

    /** "an ERROR LOW - k (k 1 .. 6); BEYOND: another k (counted, too)". */
    private static void toldEach() {
        ShodBackwards x = one(0);
        Due.is("38 0", x.told(0), Due.BEYOND);
        Due.is("38 7", x.told(7), Due.BEYOND);
        Due.is("38 -1", x.told(-1), Due.BEYOND);
        Due.is("38 counted, too", x.told(1), 3);
        Due.is("38 itself isn't", x.told(1), 3);
        int[] want = {3, 0, 0, 0, 0, 0};
        for (int error = 2; error <= 6; error++) {
            for (int times = 0; times < error; times++) {
                refuse(x, error);
            }
            want[error - 1] += error;
            for (int k = 1; k <= 6; k++) {
                Due.is("38 told " + k + " behind " + error, x.told(k), want[k - 1]);
            }
        }
    }

    private static void refuse(ShodBackwards x, int error) {
        switch (error) {
            case 2 -> Due.is("38 none", x.restore(), Due.NONE);
            case 3 -> Due.is("38 state", x.sheet(0, 8, -1), Due.STATE);
            case 4 -> {
                while (x.riderIs(0, 4) < 12) {
                    x.way(0, 0);
                }
                Due.is("38 full", x.way(0, 0), Due.FULL);
            }
            case 5 -> Due.is("38 kind", x.as(0, 1), Due.KIND);
            default -> Due.is("38 parted", x.voice(0, 3, 0), Due.PARTED);
        }
    }
}
