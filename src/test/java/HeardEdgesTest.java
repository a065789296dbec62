/** Promises 21 to 23, 26 and 27: HEARD, SUSPECTS, LOOK and THE DIARY, on either side of each bound. */
public final class HeardEdgesTest {
    private static final int NONE = NoonBasins.NONE;
    private static final int NO_ONE = 16384;
    private static final Twins RICH = new Twins(Twins::rich);
    private static final Twins FULL = new Twins(Twins::full);
    private static final Twins DESERT = new Twins(Twins::desert);

    public static void main(String[] args) {
        heardNumbers();
        twentyHeard();
        suspectsWithout();
        suspectsByTick();
        suspectsBits();
        suspectsFromNowOn();
        suspectsOfWhatIsGone();
        lookOthers();
        lookTicks();
        lookParts();
        lookOrder();
        lineNumbers();
        twelveLines();
        writtenOthers();
        writtenTicks();
        writtenAll();
        writtenOfWhatIsGone();
        Due.close();
    }

    private static void heardRefused(int t, int siphon) {
        for (boolean played : new boolean[] {false, true}) {
            String name = "heard(" + t + ", " + siphon + ", " + played + ")";
            RICH.refuse(name, NONE, x -> x.heard(t, siphon, played));
        }
    }

    private static void heardTaken(int t, int siphon) {
        for (boolean played : new boolean[] {false, true}) {
            String name = "heard(" + t + ", " + siphon + ", " + played + ")";
            RICH.take(name, 3, x -> x.heard(t, siphon, played));
        }
    }

    /** The rich palace has 4 SIPHONS and 2 HEARD. */
    private static void heardNumbers() {
        Due.promise(21, "heard: TICK 0 .. 47");
        heardRefused(Integer.MIN_VALUE, 1);
        heardRefused(-1, 1);
        heardTaken(0, 1);
        heardTaken(23, 1);
        heardTaken(24, 1);
        heardTaken(47, 1);
        heardRefused(48, 1);
        heardRefused(Integer.MAX_VALUE, 1);
        Due.promise(21, "heard: a SIPHON");
        heardRefused(5, Integer.MIN_VALUE);
        heardRefused(5, NONE);
        heardTaken(5, 0);
        heardTaken(5, 3);
        heardRefused(5, 4);
        heardRefused(5, Integer.MAX_VALUE);
        DESERT.refuse("heard without SIPHONS", NONE, x -> x.heard(0, 0, true));
        Due.is("of a new object", new NoonBasins().heard(0, 0, true), NONE);
        NoonBasins x = fourteen();
        Due.is("SIPHON 13", x.heard(0, 13, true), 1);
        Due.is("SIPHON 14", x.heard(0, 14, true), NONE);
        Due.is("HEARD", x.about(8), 1);
    }

    private static NoonBasins fourteen() {
        NoonBasins x = Due.ruled("spring 0;");
        x.basin(9, 99, 99);
        for (int s = 0; s < 14; s++) {
            x.siphon(0, NONE, 50, 0, 1, 0);
        }
        return x;
    }

    private static void twentyHeard() {
        Due.promise(21, "heard: 20 at most");
        NoonBasins x = fourteen();
        for (int i = 1; i <= 20; i++) {
            Due.is("HEARD " + i, x.heard(47, i % 14, true), i);
            Due.is("how many", x.about(8), i);
        }
        Due.is("a 21st", x.heard(0, 0, true), NONE);
        Due.is("how many", x.about(8), 20);
        FULL.refuse("a 21st", NONE, y -> y.heard(0, 0, true));
        FULL.refuse("a 21st", NONE, y -> y.heard(0, 0, false));
        FULL.refuse("a 21st that can't be", NONE, y -> y.heard(48, 0, false));
        // The 20th counts as the first does.
        NoonBasins z = fourteen();
        for (int i = 1; i < 20; i++) {
            z.heard(0, 0, true);
        }
        Due.is("19 that are so", z.suspects(), NO_ONE + 16382);
        z.heard(0, 13, false);
        Due.is("and a 20th", z.suspects(), 1 << 13);
    }

    private static void suspectsWithout() {
        Due.promise(22, "suspects: without BASINS");
        DESERT.refuse("suspects()", NONE, NoonBasins::suspects);
        Due.is("of a new object", new NoonBasins().suspects(), NONE);
        NoonBasins x = new NoonBasins();
        x.basin(9, 9, 9);
        Due.is("without SIPHONS none may be BROKEN", x.suspects(), NO_ONE);
    }

    private static void suspectsByTick() {
        Due.promise(22, "suspects: in TICK t it PLAYED, or didn't");
        for (int tick : new int[] {0, 1, 23, 24, 46, 47}) {
            for (int t = Math.max(0, tick - 1); t <= Math.min(47, tick + 1); t++) {
                NoonBasins x = TriedEdgesTest.playsOnceIn(tick);
                x.heard(t, 0, true);
                Due.is("plays in " + tick + ", heard in " + t, x.suspects(), t == tick ? NO_ONE : 0);
                NoonBasins y = TriedEdgesTest.playsOnceIn(tick);
                y.heard(t, 0, false);
                Due.is("plays in " + tick + ", silent in " + t, y.suspects(), t == tick ? 1 : NO_ONE + 1);
            }
        }
        NoonBasins z = TriedEdgesTest.playsOnceIn(48);
        z.heard(47, 0, false);
        Due.is("TICK 48 is none of them", z.suspects(), NO_ONE + 1);
        z.ticks(1);
        Due.is("from THE TICK on", z.suspects(), 1);
    }

    private static void suspectsBits() {
        Due.promise(22, "suspects: SIPHONS (bits), and 16384 more, if none may be");
        NoonBasins x = fourteen();
        Due.is("nothing HEARD", x.suspects(), 32767);
        x.image();
        for (int s = 0; s < 14; s++) {
            x.back();
            x.heard(3, s, true);
            Due.is("all but SIPHON " + s, x.suspects(), 32767 - (1 << s));
            x.heard(2, s, false);
            Due.is("none: it played with no more", x.suspects(), 0);
            x.back();
            x.heard(3, s, false);
            Due.is("SIPHON " + s + " alone", x.suspects(), 1 << s);
        }
        x.back();
        x.heard(0, 0, false);
        x.heard(0, 1, false);
        Due.is("just one may be BROKEN", x.suspects(), 0);
    }

    private static void suspectsFromNowOn() {
        Due.promise(22, "suspects: BROKEN from now on, stopped if it RUNS");
        NoonBasins x = Due.ruled("spring 0;");
        x.basin(90, 9, 9);
        x.basin(80, 9, 0);
        x.siphon(0, 1, 9, 0, 1, 0);
        x.siphon(1, NONE, 3, 0, 9, 0);
        x.ticks(2);
        Due.is("it RUNS", x.of(0, 0), 1);
        Due.is("2 came by it", x.drops(1), 2);
        x.heard(0, 0, false);
        Due.is("it has stopped", x.suspects(), 1);
        x.heard(1, 1, false);
        Due.is("so the other one doesn't start", x.suspects(), 1);
        x.heard(40, 1, true);
        Due.is("nor ever", x.suspects(), 0);
        Due.is("it RUNS all the same", x.of(0, 0), 1);
        Due.is("nothing is changed: 3 and 1 more come, then all go", x.ticks(2), 4);
        // What a BROKEN one doesn't carry stays above, so that another one starts.
        NoonBasins y = Due.ruled("spring 1;");
        y.basin(90, 9, 0);
        y.siphon(0, NONE, 3, 0, 9, 0);
        y.siphon(0, NONE, 5, 0, 9, 0);
        y.heard(4, 1, true);
        Due.is("the first must be BROKEN", y.suspects(), 1);
        // A shut COCK or one that RESTS: silent, BROKEN or not.
        NoonBasins z = Due.ruled("spring 0;");
        z.basin(90, 9, 9);
        z.siphon(0, NONE, 5, 0, 1, 0);
        z.cock(0, false);
        z.heard(0, 0, false);
        Due.is("shut", z.suspects(), NO_ONE + 1);
    }

    private static void suspectsOfWhatIsGone() {
        Due.promise(22, "suspects: of what is there no more as of one that doesn't PLAY");
        NoonBasins x = Due.ruled("spring 0;basin 9,9,9;siphon 0,99,9,0,1;");
        x.basin(9, 9, 9);
        x.siphon(0, NONE, 9, 0, 1, 0);
        x.siphon(0, NONE, 9, 0, 1, 0);
        x.heard(0, 1, false);
        Due.is("ahead of it", x.suspects(), 2);
        x.image();
        x.laid(0);
        Due.is("HEARD stay", x.about(8), 1);
        Due.is("it didn't play", x.suspects(), NO_ONE + 1);
        x.back();
        x.heard(1, 1, true);
        x.laid(0);
        Due.is("it can't have", x.suspects(), 0);
    }

    private static void lookIs(String what, NoonBasins x, int... due) {
        for (int i = 0; i < 3; i++) {
            Due.is("look(" + i + "): " + what, x.look(i), i < due.length ? due[i] : NONE);
        }
    }

    private static void lookOthers() {
        Due.promise(23, "look: NONE for others, and without BASINS");
        for (int what : new int[] {Integer.MIN_VALUE, -1, 3, Integer.MAX_VALUE}) {
            RICH.refuse("look(" + what + ")", NONE, x -> x.look(what));
            FULL.refuse("look(" + what + ")", NONE, x -> x.look(what));
        }
        for (int what = 0; what <= 2; what++) {
            int w = what;
            DESERT.refuse("look(" + w + ")", NONE, x -> x.look(w));
        }
        Due.is("of a new object", new NoonBasins().look(0), NONE);
        NoonBasins x = new NoonBasins();
        x.basin(9, 9, 9);
        lookIs("without SIPHONS", x);
    }

    private static void lookTicks() {
        Due.promise(23, "look: TICK 0 .. 23");
        for (int tick : new int[] {0, 1, 22, 23}) {
            lookIs("plays in " + tick, TriedEdgesTest.playsOnceIn(tick), tick, 0, 1);
        }
        for (int tick : new int[] {24, 47}) {
            NoonBasins x = TriedEdgesTest.playsOnceIn(tick);
            lookIs("plays in " + tick, x);
            Due.is("two SUSPECTS all the same", x.suspects(), NO_ONE + 1);
            x.ticks(1);
            lookIs("a TICK later", x, tick == 24 ? new int[] {23, 0, 1} : new int[0]);
        }
    }

    private static void lookParts() {
        Due.promise(23, "look: none, if all SUSPECTS are of one part by each");
        NoonBasins x = TriedEdgesTest.playsOnceIn(5);
        x.image();
        x.heard(5, 0, true);
        lookIs("no one is BROKEN", x);
        x.back();
        x.heard(5, 0, false);
        lookIs("one is BROKEN", x);
        x.heard(5, 0, true);
        Due.is("no SUSPECTS", x.suspects(), 0);
        lookIs("no SUSPECTS", x);
        Due.promise(23, "look: the greater part is least");
        NoonBasins y = fourteen();
        // One of 15 is silent by itself: 14 are the greater part by each SIPHON.
        lookIs("each tells one apart", y, 0, 0, 14);
        y.heard(0, 0, true);
        lookIs("13 of 14", y, 0, 1, 13);
    }

    private static void lookOrder() {
        Due.promise(23, "look: of like ones the lowest TICK, then SIPHON");
        // A row of five: SIPHON s plays from TICK s on, if none above is BROKEN nor it itself.
        NoonBasins x = Due.ruled("spring 1;");
        for (int b = 0; b < 5; b++) {
            x.basin(90 - b, 9, 0);
        }
        for (int s = 0; s < 5; s++) {
            x.siphon(s, s < 4 ? s + 1 : NONE, 1, 0, 1, 0);
        }
        Due.is("six SUSPECTS", x.suspects(), NO_ONE + 31);
        lookIs("three and three by SIPHON 2", x, 2, 2, 3);
        x.heard(2, 2, false);
        Due.is("three SUSPECTS", x.suspects(), 7);
        lookIs("one and two by SIPHON 0", x, 0, 0, 2);
        x.heard(0, 0, true);
        Due.is("two SUSPECTS", x.suspects(), 6);
        lookIs("one and one by SIPHON 1", x, 1, 1, 1);
        // With SIPHONS that are told the other way round, the lower one plays later.
        NoonBasins y = Due.ruled("spring 1;");
        y.basin(90, 9, 0);
        y.basin(80, 9, 0);
        y.siphon(1, NONE, 1, 0, 1, 0);
        y.siphon(0, 1, 1, 0, 1, 0);
        lookIs("the lowest TICK ahead of the lower SIPHON", y, 0, 1, 2);
        NoonBasins z = Due.ruled("spring 0;");
        z.basin(90, 9, 1);
        z.basin(80, 9, 1);
        z.siphon(1, NONE, 1, 0, 1, 0);
        z.siphon(0, NONE, 1, 0, 1, 0);
        lookIs("of one TICK the lower SIPHON", z, 0, 0, 2);
        z.heard(0, 0, true);
        lookIs("then the other one", z, 0, 1, 1);
        // SIPHON 13 alone tells something.
        NoonBasins w = Due.ruled("spring 0;");
        w.basin(90, 9, 1);
        for (int s = 0; s < 14; s++) {
            w.siphon(0, NONE, s == 13 ? 1 : 9, 0, 1, 0);
        }
        lookIs("SIPHON 13", w, 0, 13, 14);
    }

    private static void lineRefused(int j, int siphon) {
        for (boolean played : new boolean[] {false, true}) {
            String name = "line(" + j + ", " + siphon + ", " + played + ")";
            RICH.refuse(name, NONE, x -> x.line(j, siphon, played));
        }
    }

    private static void lineTaken(int j, int siphon) {
        for (boolean played : new boolean[] {false, true}) {
            String name = "line(" + j + ", " + siphon + ", " + played + ")";
            RICH.take(name, 3, x -> x.line(j, siphon, played));
        }
    }

    /** The rich palace has 4 SIPHONS and 2 lines. */
    private static void lineNumbers() {
        Due.promise(26, "line: 0 .. 40 TICKS behind its beginning");
        lineRefused(Integer.MIN_VALUE, 1);
        lineRefused(-1, 1);
        lineTaken(0, 1);
        lineTaken(40, 1);
        lineRefused(41, 1);
        lineRefused(Integer.MAX_VALUE, 1);
        Due.promise(26, "line: a SIPHON");
        lineRefused(5, Integer.MIN_VALUE);
        lineRefused(5, NONE);
        lineTaken(5, 0);
        lineTaken(5, 3);
        lineRefused(5, 4);
        lineRefused(5, Integer.MAX_VALUE);
        DESERT.refuse("line without SIPHONS", NONE, x -> x.line(0, 0, true));
        Due.is("of a new object", new NoonBasins().line(0, 0, true), NONE);
        NoonBasins x = fourteen();
        Due.is("SIPHON 13", x.line(0, 13, true), 1);
        Due.is("SIPHON 14", x.line(0, 14, true), NONE);
        Due.is("lines", x.about(9), 1);
    }

    private static void twelveLines() {
        Due.promise(26, "line: 12 at most");
        NoonBasins x = fourteen();
        for (int i = 1; i <= 12; i++) {
            Due.is("line " + i, x.line(40, i, true), i);
            Due.is("how many", x.about(9), i);
        }
        Due.is("a 13th", x.line(0, 0, true), NONE);
        Due.is("how many", x.about(9), 12);
        FULL.refuse("a 13th", NONE, y -> y.line(0, 0, true));
        FULL.refuse("a 13th", NONE, y -> y.line(0, 0, false));
        FULL.refuse("a 13th that can't be", NONE, y -> y.line(41, 0, false));
        NoonBasins z = TriedEdgesTest.playsOnceIn(30);
        for (int i = 1; i < 12; i++) {
            z.line(0, 0, false);
        }
        Due.is("11 lines", z.written(NONE), 100);
        z.line(1, 0, true);
        Due.is("and a 12th", z.written(NONE), 1);
        Due.is("and a 12th", z.written(0), 29);
    }

    private static void writtenOthers() {
        Due.promise(27, "written: NONE for others, and without BASINS");
        for (int i : new int[] {Integer.MIN_VALUE, -3, -2, 101, Integer.MAX_VALUE}) {
            RICH.refuse("written(" + i + ")", NONE, x -> x.written(i));
            FULL.refuse("written(" + i + ")", NONE, x -> x.written(i));
        }
        DESERT.refuse("written(NONE)", NONE, x -> x.written(NONE));
        DESERT.refuse("written(0)", NONE, x -> x.written(0));
        Due.is("of a new object", new NoonBasins().written(NONE), NONE);
        NoonBasins x = new NoonBasins();
        x.basin(9, 9, 9);
        Due.is("without lines: all", x.written(NONE), 101);
    }

    private static void writtenTicks() {
        Due.promise(27, "written: TICKS 0 .. 100 with which it can have begun");
        for (int j : new int[] {0, 1, 39, 40}) {
            for (int begun : new int[] {0, 1, 50, 99, 100}) {
                NoonBasins x = TriedEdgesTest.playsOnceIn(begun + j);
                x.line(j, 0, true);
                Due.is("begun with " + begun + ", line of " + j, x.written(NONE), 1);
                Due.is("the first", x.written(0), begun);
                Due.is("the second", x.written(1), NONE);
                NoonBasins y = TriedEdgesTest.playsOnceIn(begun + j);
                y.line(j, 0, false);
                Due.is("any but " + begun, y.written(NONE), 100);
                Due.is("the first", y.written(0), begun == 0 ? 1 : 0);
                Due.is("the last", y.written(99), begun == 100 ? 99 : 100);
                Due.is("none such", y.written(100), NONE);
            }
            NoonBasins x = TriedEdgesTest.playsOnceIn(101 + j);
            x.line(j, 0, true);
            Due.is("not with 101", x.written(NONE), 0);
            Due.is("none such", x.written(0), NONE);
            x.ticks(1);
            Due.is("with 100, a TICK later", x.written(0), 100);
        }
        NoonBasins z = TriedEdgesTest.playsOnceIn(20);
        z.line(21, 0, true);
        Due.is("not ahead of THE TICK", z.written(NONE), 0);
    }

    private static void writtenAll() {
        Due.promise(27, "written: how many, the i-th");
        NoonBasins x = fourteen();
        Due.is("how many", x.written(NONE), 101);
        for (int i = 0; i <= 100; i++) {
            Due.is("the " + i + "-th", x.written(i), i);
        }
        Due.is("the 101-th", x.written(101), NONE);
        // It plays in TICKS 4, 9, 14, ..: each line leaves the fifth of them, both together none.
        NoonBasins y = new NoonBasins();
        y.basin(50, 9, 0);
        y.siphon(0, NONE, 5, 0, 9, 0);
        y.line(0, 0, true);
        Due.is("how many", y.written(NONE), 20);
        for (int i = 0; i < 20; i++) {
            Due.is("the " + i + "-th", y.written(i), 4 + 5 * i);
        }
        Due.is("the 20-th", y.written(20), NONE);
        y.line(5, 0, true);
        Due.is("how many", y.written(NONE), 20);
        y.line(4, 0, true);
        Due.is("how many", y.written(NONE), 0);
        Due.is("none such", y.written(0), NONE);
    }

    private static void writtenOfWhatIsGone() {
        Due.promise(27, "written: of what is there no more as of one that doesn't PLAY");
        NoonBasins x = Due.ruled("basin 9,9,9;siphon 0,99,9,0,1;");
        x.basin(9, 9, 9);
        x.siphon(0, NONE, 9, 0, 1, 0);
        x.siphon(0, NONE, 9, 0, 1, 0);
        x.line(0, 1, false);
        x.image();
        x.laid(0);
        Due.is("lines stay", x.about(9), 1);
        Due.is("it didn't play", x.written(NONE), 101);
        x.back();
        x.line(1, 1, true);
        x.laid(0);
        Due.is("it can't have", x.written(NONE), 0);
    }
}
