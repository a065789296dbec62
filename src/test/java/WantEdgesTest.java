/** Promises 17 to 20: WANTS, TURNS and DIGGING, on either side of each bound. */
public final class WantEdgesTest {
    private static final int NONE = NoonBasins.NONE;
    private static final Twins RICH = new Twins(Twins::rich);
    private static final Twins FULL = new Twins(Twins::full);
    private static final Twins DESERT = new Twins(Twins::desert);

    public static void main(String[] args) {
        wantKinds();
        wantTicks();
        wantOfWhat();
        wantLevels();
        eightWants();
        missedOthers();
        missedOrder();
        missedLevels();
        missedInItsTick();
        missedOfWhatIsGone();
        turnsOthers();
        turnsAtTheEdges();
        turnsOrder();
        turnsOfThirteen();
        turnsAreTwoAtMost();
        turnsOfWhatIsGone();
        turnsByLevels();
        turnsFromFar();
        digOthers();
        digSets();
        digBores();
        digCrests();
        digRooms();
        digRoomsOfOthers();
        digOfTheLast();
        digOfOneThatRuns();
        digOrder();
        digNone();
        Due.close();
    }

    private static void wantRefused(int kind, int t, int which, int v) {
        String name = "want(" + kind + ", " + t + ", " + which + ", " + v + ")";
        RICH.refuse(name, NONE, x -> x.want(kind, t, which, v));
    }

    /** The rich palace has 2 WANTS, 3 BASINS and 4 SIPHONS. */
    private static void wantTaken(int kind, int t, int which, int v) {
        String name = "want(" + kind + ", " + t + ", " + which + ", " + v + ")";
        RICH.take(name, 3, x -> x.want(kind, t, which, v));
    }

    private static void wantKinds() {
        Due.promise(17, "want: KINDS 0 .. 3");
        wantRefused(Integer.MIN_VALUE, 5, 1, 5);
        wantRefused(-1, 5, 1, 5);
        wantTaken(0, 5, 1, 5);
        wantTaken(1, 5, 1, 5);
        wantTaken(2, 5, 1, 5);
        wantTaken(3, 5, 1, 5);
        wantRefused(4, 5, 1, 5);
        wantRefused(Integer.MAX_VALUE, 5, 1, 5);
    }

    private static void wantTicks() {
        Due.promise(17, "want: TICK 0 .. 23");
        for (int kind = 0; kind <= 3; kind++) {
            wantRefused(kind, Integer.MIN_VALUE, 1, 5);
            wantRefused(kind, -1, 1, 5);
            wantTaken(kind, 0, 1, 5);
            wantTaken(kind, 23, 1, 5);
            wantRefused(kind, 24, 1, 5);
            wantRefused(kind, Integer.MAX_VALUE, 1, 5);
        }
    }

    private static void wantOfWhat() {
        Due.promise(17, "want: a SIPHON, of KIND 2, 3 a BASIN");
        for (int kind = 0; kind <= 3; kind++) {
            int most = kind < 2 ? 3 : 2;
            wantRefused(kind, 5, Integer.MIN_VALUE, 5);
            wantRefused(kind, 5, NONE, 5);
            wantTaken(kind, 5, 0, 5);
            wantTaken(kind, 5, most, 5);
            wantRefused(kind, 5, most + 1, 5);
            wantRefused(kind, 5, Integer.MAX_VALUE, 5);
            int k = kind;
            DESERT.refuse("want of KIND " + k + " without BASINS", NONE, x -> x.want(k, 5, 0, 5));
        }
        NoonBasins x = new NoonBasins();
        for (int b = 0; b < 10; b++) {
            x.basin(9, 9, 9);
        }
        Due.is("KIND 0 without SIPHONS", x.want(0, 5, 0, 5), NONE);
        Due.is("KIND 2 of BASIN 9", x.want(2, 5, 9, 5), 1);
        Due.is("KIND 3 of BASIN 10", x.want(3, 5, 10, 5), NONE);
        for (int s = 0; s < 14; s++) {
            x.siphon(0, NONE, 9, 0, 1, 0);
        }
        Due.is("KIND 1 of SIPHON 13", x.want(1, 5, 13, 5), 2);
        Due.is("KIND 1 of SIPHON 14", x.want(1, 5, 14, 5), NONE);
        Due.is("KIND 3 of BASIN 13", x.want(3, 5, 13, 5), NONE);
    }

    private static void wantLevels() {
        Due.promise(17, "want: v 0 .. 99, for those");
        for (int kind = 2; kind <= 3; kind++) {
            wantRefused(kind, 5, 1, Integer.MIN_VALUE);
            wantRefused(kind, 5, 1, -1);
            wantTaken(kind, 5, 1, 0);
            wantTaken(kind, 5, 1, 99);
            wantRefused(kind, 5, 1, 100);
            wantRefused(kind, 5, 1, Integer.MAX_VALUE);
        }
        for (int kind = 0; kind <= 1; kind++) {
            wantTaken(kind, 5, 1, Integer.MIN_VALUE);
            wantTaken(kind, 5, 1, -1);
            wantTaken(kind, 5, 1, 100);
            wantTaken(kind, 5, 1, Integer.MAX_VALUE);
        }
    }

    private static void eightWants() {
        Due.promise(17, "want: 8 at most");
        NoonBasins x = new NoonBasins();
        x.basin(9, 9, 9);
        for (int i = 1; i <= 8; i++) {
            Due.is("WANT " + i, x.want(2, 0, 0, 0), i);
            Due.is("WANTS", x.about(7), i);
        }
        Due.is("a ninth", x.want(2, 0, 0, 0), NONE);
        Due.is("WANTS", x.about(7), 8);
        for (int kind = 0; kind <= 3; kind++) {
            int k = kind;
            FULL.refuse("a ninth of KIND " + k, NONE, y -> y.want(k, 0, 0, 99));
        }
        FULL.refuse("a ninth that can't be", NONE, y -> y.want(4, 0, 0, 0));
    }

    private static void missedOthers() {
        Due.promise(18, "missed: none, and without BASINS");
        DESERT.refuse("missed()", NONE, NoonBasins::missed);
        Due.is("of a new object", new NoonBasins().missed(), NONE);
        NoonBasins x = new NoonBasins();
        x.basin(9, 9, 9);
        Due.is("without WANTS", x.missed(), NONE);
    }

    private static void missedOrder() {
        Due.promise(18, "missed: the first WANT that isn't met");
        for (int missed = 0; missed < 8; missed++) {
            NoonBasins x = Due.ruled("spring 0;");
            x.basin(9, 9, 5);
            for (int i = 0; i < 8; i++) {
                x.want(2, 23 - i, 0, i == missed ? 6 : 5);
            }
            Due.is("of eight", x.missed(), missed);
        }
        NoonBasins y = Due.ruled("spring 0;");
        y.basin(9, 9, 5);
        y.want(2, 23, 0, 9);
        y.want(2, 0, 0, 9);
        Due.is("as they were told, not by TICKS", y.missed(), 0);
    }

    private static void missedLevels() {
        Due.promise(18, "missed: v or more, v or less");
        for (int v = 4; v <= 6; v++) {
            NoonBasins x = Due.ruled("spring 0;");
            x.basin(9, 9, 5);
            x.want(2, 0, 0, v);
            Due.is(v + " or more of 5", x.missed(), v <= 5 ? NONE : 0);
            NoonBasins y = Due.ruled("spring 0;");
            y.basin(9, 9, 5);
            y.want(3, 0, 0, v);
            Due.is(v + " or less of 5", y.missed(), v >= 5 ? NONE : 0);
        }
        NoonBasins z = Due.ruled("spring 0;");
        z.basin(9, 99, 99);
        z.basin(9, 99, 0);
        z.want(2, 0, 0, 99);
        z.want(3, 0, 0, 99);
        z.want(2, 0, 1, 0);
        z.want(3, 0, 1, 0);
        Due.is("99 and 0", z.missed(), NONE);
    }

    private static void missedInItsTick() {
        Due.promise(18, "missed: in TICK t, behind TICK t");
        for (int tick : new int[] {0, 1, 22, 23}) {
            for (int t = 0; t < 24; t++) {
                NoonBasins x = TriedEdgesTest.playsOnceIn(tick);
                x.want(0, t, 0, 0);
                Due.is("plays in " + tick + ", wanted in " + t, x.missed(), t == tick ? NONE : 0);
                NoonBasins y = TriedEdgesTest.playsOnceIn(tick);
                y.want(1, t, 0, 0);
                Due.is("plays in " + tick + ", not wanted in " + t, y.missed(), t == tick ? 0 : NONE);
                NoonBasins z = TriedEdgesTest.playsOnceIn(tick);
                z.cock(0, false);
                z.want(2, t, 0, 9);
                Due.is("9 come in " + tick + ", wanted behind " + t, z.missed(), t >= tick ? NONE : 0);
            }
        }
        NoonBasins w = TriedEdgesTest.playsOnceIn(24);
        w.want(0, 23, 0, 0);
        Due.is("TICK 24 is none of them", w.missed(), 0);
        w.ticks(1);
        Due.is("from THE TICK on", w.missed(), NONE);
        // Playing counts though 0 were carried.
        NoonBasins v = Due.ruled("spring 0;flow 0;");
        v.basin(9, 9, 9);
        v.siphon(0, NONE, 9, 0, 1, 0);
        v.want(0, 23, 0, 0);
        Due.is("carries 0", v.missed(), NONE);
    }

    private static NoonBasins withWantsOfWhatGoes(int... kinds) {
        NoonBasins x = Due.ruled("spring 9;basin 9,9,9;siphon 0,99,9,0,9;");
        x.basin(9, 9, 9);
        x.basin(9, 9, 9);
        x.siphon(0, NONE, 9, 0, 9, 0);
        x.siphon(1, NONE, 9, 0, 1, 0);
        for (int kind : kinds) {
            x.want(kind, 0, 1, kind == 2 ? 1 : 0);
        }
        return x;
    }

    private static void missedOfWhatIsGone() {
        Due.promise(18, "missed: of what is there no more as of one that doesn't PLAY, has none");
        int[] due = {0, NONE, 0, NONE};
        for (int kind = 0; kind <= 3; kind++) {
            NoonBasins x = withWantsOfWhatGoes(kind);
            Due.is("KIND " + kind + " ahead of it", x.missed(), kind == 0 || kind == 2 ? NONE : 0);
            Due.is("laid(0)", x.laid(0), NONE);
            Due.is("WANTS stay", x.about(7), 1);
            Due.is("KIND " + kind, x.missed(), due[kind]);
        }
        NoonBasins y = withWantsOfWhatGoes();
        y.want(2, 0, 1, 0);
        y.laid(0);
        Due.is("0 or more", y.missed(), NONE);
        // One of its number that comes again is meant by it.
        NoonBasins z = withWantsOfWhatGoes(0, 2);
        z.laid(0);
        Due.is("gone", z.missed(), 0);
        z.basin(5, 9, 9);
        Due.is("a BASIN 1 is there again", z.missed(), 0);
        z.siphon(1, NONE, 9, 0, 1, 0);
        Due.is("a SIPHON 1 is there again", z.missed(), NONE);
    }

    private static void turnsAre(String what, NoonBasins x, int... due) {
        for (int i = 0; i < 5; i++) {
            Due.is("turnsOf(" + i + "): " + what, x.turnsOf(i), i < due.length ? due[i] : NONE);
        }
    }

    private static void turnsOthers() {
        Due.promise(19, "turnsOf: NONE for others, and without BASINS");
        for (int what : new int[] {Integer.MIN_VALUE, -1, 5, Integer.MAX_VALUE}) {
            RICH.refuse("turnsOf(" + what + ")", NONE, x -> x.turnsOf(what));
            FULL.refuse("turnsOf(" + what + ")", NONE, x -> x.turnsOf(what));
        }
        for (int what = 0; what <= 4; what++) {
            int w = what;
            DESERT.refuse("turnsOf(" + w + ")", NONE, x -> x.turnsOf(w));
        }
        Due.is("of a new object", new NoonBasins().turnsOf(0), NONE);
        NoonBasins x = new NoonBasins();
        x.basin(9, 9, 9);
        turnsAre("without WANTS", x, 0);
        x.want(2, 0, 0, 9);
        turnsAre("without SIPHONS, met", x, 0);
        x.want(3, 0, 0, 8);
        turnsAre("without SIPHONS, not met", x, NONE);
    }

    /** Nine DROPS and a SIPHON that carries one a TICK, as long as it is open. */
    private static NoonBasins running(int drops) {
        NoonBasins x = Due.ruled("spring 0;");
        x.basin(9, 99, drops);
        x.siphon(0, NONE, 1, 0, 1, 0);
        return x;
    }

    private static void turnsAtTheEdges() {
        Due.promise(19, "turnsOf: each ahead of a TICK 0 .. 23");
        NoonBasins x = running(30);
        x.want(1, 0, 0, 0);
        turnsAre("shut ahead of TICK 0", x, 1, 0, 0);
        NoonBasins y = running(30);
        y.want(0, 22, 0, 0);
        y.want(1, 23, 0, 0);
        turnsAre("shut ahead of TICK 23", y, 1, 23, 0);
        NoonBasins z = running(30);
        z.cock(0, false);
        z.want(1, 22, 0, 0);
        z.want(0, 23, 0, 0);
        turnsAre("a shut one open ahead of TICK 23", z, 1, 23, 0);
        NoonBasins w = running(30);
        w.want(0, 21, 0, 0);
        w.want(1, 22, 0, 0);
        w.want(0, 23, 0, 0);
        turnsAre("one of them twice, the second ahead of TICK 23", w, 2, 22, 0, 23, 0);
        NoonBasins v = running(30);
        v.want(1, 0, 0, 0);
        v.want(0, 1, 0, 0);
        turnsAre("one of them twice, the first ahead of TICK 0", v, 2, 0, 0, 1, 0);
        NoonBasins u = running(30);
        u.want(3, 23, 0, 6);
        turnsAre("24 go without", u, 0);
        u.want(2, 23, 0, 7);
        turnsAre("24 less 23 can't be both", u, NONE);
    }

    private static void turnsOrder() {
        Due.promise(19, "turnsOf: the earliest first one, then the second");
        NoonBasins x = running(30);
        x.want(2, 23, 0, 20);
        // 10 may go at most: shut behind at most 10 of them; the earliest turn does as well.
        turnsAre("the earliest", x, 1, 0, 0);
        x.want(3, 23, 0, 20);
        turnsAre("just 10 may go", x, 1, 10, 0);
        NoonBasins y = running(30);
        y.cock(0, false);
        y.want(2, 23, 0, 25);
        turnsAre("nothing need be turned", y, 0);
        y.want(3, 23, 0, 25);
        turnsAre("open ahead of the last 5: one turn is fewer", y, 1, 19, 0);
        y.want(1, 23, 0, 0);
        turnsAre("and shut again, the earliest first one", y, 2, 0, 0, 5, 0);
        y.want(1, 4, 0, 0);
        turnsAre("not in TICK 4", y, 2, 5, 0, 10, 0);
        Due.promise(19, "turnsOf: of one TICK the lower SIPHON");
        NoonBasins z = Due.ruled("spring 0;");
        z.basin(9, 9, 9);
        z.siphon(0, NONE, 9, 8, 1, 0);
        z.siphon(0, NONE, 9, 8, 1, 0);
        z.want(2, 0, 0, 9);
        turnsAre("both have to be shut", z, 2, 0, 0, 0, 1);
        NoonBasins w = Due.ruled("spring 0;");
        w.basin(9, 9, 9);
        w.siphon(0, NONE, 9, 0, 1, 0);
        w.siphon(0, NONE, 9, 0, 1, 0);
        w.want(2, 0, 0, 8);
        turnsAre("one of them: the lower", w, 1, 0, 0);
        w.want(0, 0, 0, 0);
        turnsAre("the other one", w, 1, 0, 1);
    }

    private static void turnsOfThirteen() {
        Due.promise(19, "turnsOf: SIPHONS 0 .. 13");
        NoonBasins x = Due.ruled("spring 0;");
        x.basin(9, 99, 99);
        for (int s = 0; s < 14; s++) {
            x.siphon(0, NONE, 99, 98, 1, 0);
        }
        x.basin(9, 99, 99);
        x.want(1, 0, 13, 0);
        turnsAre("the last one", x, 1, 0, 13);
        x.want(1, 0, 12, 0);
        turnsAre("the last two", x, 2, 0, 12, 0, 13);
        x.want(1, 0, 0, 0);
        turnsAre("three", x, NONE);
        NoonBasins y = Due.ruled("spring 0;");
        y.basin(9, 99, 50);
        for (int s = 0; s < 14; s++) {
            y.siphon(0, NONE, s == 13 ? 1 : 99, 0, 1, 0);
        }
        y.want(0, 22, 13, 0);
        y.want(1, 23, 13, 0);
        turnsAre("the last one ahead of TICK 23", y, 1, 23, 13);
    }

    private static void turnsAreTwoAtMost() {
        Due.promise(19, "turnsOf: the fewest (0, 1, 2)");
        NoonBasins x = running(30);
        x.image();
        x.want(0, 5, 0, 0);
        turnsAre("none is needed", x, 0);
        x.want(1, 10, 0, 0);
        turnsAre("one", x, 1, 6, 0);
        x.want(0, 15, 0, 0);
        turnsAre("two", x, 2, 6, 0, 11, 0);
        x.want(1, 20, 0, 0);
        turnsAre("three are too many", x, NONE);
        Due.is("nothing is turned", x.of(0, 2), 1);
        x.back();
        turnsAre("none is needed", x, 0);
    }

    private static void turnsOfWhatIsGone() {
        Due.promise(19, "turnsOf: of what is there no more");
        int[] due = {NONE, 0, NONE, 0};
        for (int kind = 0; kind <= 3; kind++) {
            NoonBasins x = withWantsOfWhatGoes(kind);
            x.laid(0);
            turnsAre("KIND " + kind, x, due[kind]);
        }
        NoonBasins y = withWantsOfWhatGoes(1, 3);
        y.want(1, 0, 0, 0);
        y.laid(0);
        turnsAre("with one that is there", y, 1, 0, 0);
    }

    /** A WANT that is met anyhow, by any level that can be told, hides no turn that another one needs. */
    private static void turnsByLevels() {
        Due.promise(19, "turnsOf: with WANTS that are met anyhow");
        NoonBasins x = running(30);
        x.image();
        int[][] met = {{3, 5, 0, 99}, {2, 5, 0, 0}, {0, 0, 0, 1000}, {0, 0, 0, -1}};
        for (int[] w : met) {
            x.want(w[0], w[1], w[2], w[3]);
            turnsAre("none is needed", x, 0);
            x.want(1, 7, 0, 1000);
            turnsAre("one is needed", x, 1, w[0] == 0 ? 1 : 0, 0);
            x.back();
        }
        Due.promise(19, "turnsOf: as much as there is ROOM for");
        for (int v = 8; v <= 10; v++) {
            NoonBasins y = new NoonBasins();
            y.basin(9, 9, 5);
            y.siphon(0, NONE, 5, 0, 9, 0);
            y.want(2, 23, 0, v);
            if (v <= 9) {
                turnsAre(v + " of 9", y, 1, 0, 0);
            } else {
                turnsAre(v + " of 9", y, NONE);
            }
        }
        Due.promise(19, "turnsOf: with WANTS of what is there no more");
        NoonBasins z = withWantsOfWhatGoes();
        z.want(2, 0, 1, 0);
        z.want(3, 0, 1, 0);
        z.want(1, 0, 1, 0);
        z.want(1, 0, 0, 0);
        z.laid(0);
        turnsAre("they are met", z, 1, 0, 0);
    }

    /** Nine BASINS below one another: what is turned at the top is wanted at the bottom. */
    private static void turnsFromFar() {
        Due.promise(19, "turnsOf: of any SIPHON");
        NoonBasins x = Due.ruled("spring 0;");
        for (int b = 0; b < 10; b++) {
            x.basin(90 - b, 9, b == 0 ? 9 : 0);
        }
        // Told from the bottom up, so that each is far from the one that it depends on.
        for (int b = 8; b >= 0; b--) {
            x.siphon(b, b + 1, 9, 0, 9, 0);
        }
        x.want(2, 9, 9, 9);
        turnsAre("all comes down by itself", x, 0);
        x.cock(8, false);
        turnsAre("the SIPHON at the top", x, 1, 0, 8);
        x.want(3, 8, 9, 0);
        turnsAre("a TICK later", x, 1, 1, 8);
        x.cock(8, true);
        turnsAre("not ahead of its time", x, 2, 0, 0, 9, 0);
        NoonBasins y = Due.ruled("spring 0;");
        y.basin(90, 9, 9);
        y.basin(80, 9, 9);
        y.basin(70, 9, 0);
        y.siphon(0, NONE, 9, 0, 9, 0);
        y.siphon(0, 2, 9, 0, 9, 0);
        y.siphon(1, NONE, 9, 0, 9, 0);
        y.want(2, 0, 2, 9);
        turnsAre("another one from there takes it all", y, 1, 0, 0);
        y.want(2, 0, 1, 9);
        turnsAre("and one from elsewhere", y, 2, 0, 0, 0, 2);
    }

    private static void digsAre(String what, NoonBasins x, int set, int... due) {
        for (int i = 0; i < 4; i++) {
            Due.is("dig(" + set + ", " + i + "): " + what, x.dig(set, i), i < due.length ? due[i] : NONE);
        }
    }

    private static void digOthers() {
        Due.promise(20, "dig: NONE for others, and without BASINS");
        for (int what : new int[] {Integer.MIN_VALUE, -1, 4, Integer.MAX_VALUE}) {
            RICH.refuse("dig(1, " + what + ")", NONE, x -> x.dig(1, what));
            FULL.refuse("dig(15, " + what + ")", NONE, x -> x.dig(15, what));
        }
        for (int what = 0; what <= 3; what++) {
            int w = what;
            DESERT.refuse("dig(1, " + w + ")", NONE, x -> x.dig(1, w));
        }
        Due.promise(20, "dig: a set of TEXTS, one at least");
        for (int set : new int[] {Integer.MIN_VALUE, -1, 0, 4, 5, 7, 8, Integer.MAX_VALUE}) {
            RICH.refuse("dig(" + set + ", 0) of 2 TEXTS", NONE, x -> x.dig(set, 0));
        }
        for (int set : new int[] {0, 16, 17, 31}) {
            FULL.refuse("dig(" + set + ", 0) of 4 TEXTS", NONE, x -> x.dig(set, 0));
        }
        NoonBasins x = new NoonBasins();
        x.basin(9, 9, 9);
        x.want(2, 0, 0, 10);
        Due.is("without TEXTS", x.dig(1, 0), NONE);
        Due.is("without TEXTS", x.dig(0, 0), NONE);
        Due.read(x, "");
        Due.is("with one", x.dig(1, 0), 1);
        Due.is("with one", x.dig(2, 0), NONE);
    }

    /** A spring of n + 1 in TEXT n: so much more ROOM is needed for more. */
    private static void digSets() {
        Due.promise(20, "dig: with each TEXT of a set as THE TEXT");
        NoonBasins x = new NoonBasins();
        x.basin(9, 5, 5);
        for (int i = 0; i < 4; i++) {
            Due.read(x, "spring " + (i + 1) + ";sun if level>" + (5 + i) + "?0:level end;");
        }
        x.want(2, 0, 0, 6);
        // With TEXT n all 5 + n + 1 have to stay, else the sun takes them: a ROOM of 6 + n, or of more.
        for (int set = 1; set < 16; set++) {
            int highest = 31 - Integer.numberOfLeadingZeros(set);
            digsAre("spring " + (highest + 1), x, set, highest + 1, 2, 0, 6 + highest);
        }
        Due.is("THE TEXT is none", x.about(4), NONE);
        x.by(3);
        digsAre("what rules is no matter", x, 1, 1, 2, 0, 6);
        NoonBasins y = new NoonBasins();
        y.basin(9, 5, 5);
        Due.read(y, "spring 1;");
        Due.read(y, "spring 0;");
        y.want(2, 0, 0, 6);
        digsAre("with the first", y, 1, 1, 2, 0, 6);
        digsAre("with the second never", y, 2);
        digsAre("with both never", y, 3);
    }

    private static void digBores() {
        Due.promise(20, "dig: BORES 1 .. 9");
        // Behind TICK 0 there are 20 less BORE; CREST and ROOM can't be otherwise to any end.
        for (int wanted = 10; wanted <= 20; wanted++) {
            NoonBasins x = Due.ruled("spring 0;");
            x.basin(9, 20, 20);
            x.siphon(0, NONE, 20, 0, 5, 0);
            x.want(2, 0, 0, wanted);
            x.want(3, 0, 0, wanted);
            int bore = 20 - wanted;
            if (bore < 1 || bore > 9 || bore == 5) {
                digsAre("BORE " + bore, x, 1);
            } else {
                digsAre("BORE " + bore, x, 1, Math.abs(bore - 5), 0, 0, bore);
            }
        }
        for (int old : new int[] {1, 9}) {
            NoonBasins x = Due.ruled("spring 0;");
            x.basin(9, 20, 20);
            x.siphon(0, NONE, 20, 0, old, 0);
            int other = 10 - old;
            x.want(2, 0, 0, 20 - other);
            x.want(3, 0, 0, 20 - other);
            digsAre("from " + old + " to " + other, x, 1, 8, 0, 0, other);
        }
    }

    private static void digCrests() {
        Due.promise(20, "dig: CRESTS from BARE + 1");
        for (int drops = 3; drops <= 9; drops++) {
            NoonBasins x = Due.ruled("spring 0;");
            x.basin(9, 9, drops);
            x.siphon(0, NONE, 9, 4, 1, 0);
            x.want(0, 0, 0, 0);
            if (drops <= 4 || drops == 9) {
                digsAre("of " + drops, x, 1);
            } else {
                digsAre("of " + drops, x, 1, 9 - drops, 1, 0, drops);
            }
        }
        Due.promise(20, "dig: CRESTS to ROOM of FROM");
        for (int drops = 4; drops <= 9; drops++) {
            NoonBasins x = Due.ruled("spring 0;");
            x.basin(9, 9, drops);
            x.siphon(0, NONE, 5, 4, 1, 0);
            x.want(1, 0, 0, 0);
            if (drops < 5 || drops == 9) {
                digsAre("of " + drops, x, 1);
            } else {
                digsAre("of " + drops, x, 1, drops - 4, 1, 0, drops + 1);
            }
        }
        // ROOM of FROM, not of TO or of BASIN 0.
        NoonBasins y = Due.ruled("spring 0;");
        y.basin(90, 99, 0);
        y.basin(80, 6, 5);
        y.basin(70, 99, 0);
        y.siphon(1, 2, 5, 4, 1, 0);
        y.want(1, 0, 0, 0);
        digsAre("to 6", y, 1, 1, 1, 0, 6);
        NoonBasins z = Due.ruled("spring 0;");
        z.basin(90, 99, 0);
        z.basin(80, 6, 6);
        z.basin(70, 99, 0);
        z.siphon(1, 2, 5, 4, 1, 0);
        z.want(1, 0, 0, 0);
        digsAre("not to 7", z, 1);
    }

    private static void digRooms() {
        Due.promise(20, "dig: ROOMS 1 .. 99");
        NoonBasins x = Due.ruled("spring 99;");
        x.basin(9, 1, 0);
        x.image();
        x.want(2, 0, 0, 99);
        digsAre("from 1 to 99", x, 1, 98, 2, 0, 99);
        x.back();
        NoonBasins y = Due.ruled("spring 99;");
        y.basin(9, 99, 0);
        y.want(3, 0, 0, 1);
        digsAre("from 99 to 1", y, 1, 98, 2, 0, 1);
        NoonBasins z = Due.ruled("spring 99;");
        z.basin(9, 99, 0);
        z.want(3, 0, 0, 0);
        digsAre("not to 0", z, 1);
        NoonBasins r = Due.ruled("spring 99;");
        r.basin(9, 50, 0);
        r.want(3, 0, 0, 0);
        digsAre("from 50 not to 0", r, 1);
        NoonBasins q = Due.ruled("spring 99;sun if room>99?0:level end;");
        q.basin(9, 50, 0);
        q.want(2, 0, 0, 1);
        digsAre("from 50 not to 100", q, 1);
        NoonBasins w = Due.ruled("spring 99;sun level;");
        w.basin(9, 50, 0);
        w.want(2, 0, 0, 1);
        digsAre("the sun takes all", w, 1);
        NoonBasins v = Due.ruled("spring 99;sun if room=99?0:level end;");
        v.basin(9, 50, 0);
        v.want(2, 0, 0, 1);
        digsAre("99 alone", v, 1, 49, 2, 0, 99);
        NoonBasins u = Due.ruled("spring 99;sun if room=1?0:level end;");
        u.basin(9, 50, 0);
        u.want(2, 0, 0, 1);
        digsAre("1 alone", u, 1, 49, 2, 0, 1);
        Due.promise(20, "dig: ROOMS that aren't below their DROPS");
        for (int drops = 3; drops <= 5; drops++) {
            NoonBasins t = Due.ruled("spring 9;");
            t.basin(9, 8, drops);
            t.want(3, 0, 0, 4);
            if (drops <= 4) {
                digsAre("of " + drops, t, 1, 4, 2, 0, 4);
            } else {
                digsAre("of " + drops, t, 1);
            }
        }
        Due.promise(20, "dig: ROOMS that aren't below a CREST from there");
        for (int crest = 3; crest <= 5; crest++) {
            for (int which = 0; which < 3; which++) {
                NoonBasins t = Due.ruled("spring 9;");
                t.basin(9, 8, 0);
                for (int s = 0; s < 3; s++) {
                    t.siphon(0, NONE, s == which ? crest : 2, 0, 1, 0);
                    t.cock(s, false);
                }
                t.want(3, 0, 0, 4);
                if (crest <= 4) {
                    digsAre("CREST " + crest + " of SIPHON " + which, t, 1, 4, 2, 0, 4);
                } else {
                    digsAre("CREST " + crest + " of SIPHON " + which, t, 1);
                }
            }
        }
        Due.promise(20, "dig: ROOMS, where nothing ever falls over");
        NoonBasins p = Due.ruled("spring 0;sun if room>50?0:1 end;");
        p.basin(50, 9, 9);
        p.want(2, 3, 0, 9);
        digsAre("the sun asks for it", p, 1, 42, 2, 0, 51);
    }

    /** A SIPHON to a BASIN, or from another one, doesn't bind its ROOM. */
    private static void digRoomsOfOthers() {
        Due.promise(20, "dig: ROOMS, a CREST of a SIPHON from there alone");
        NoonBasins x = Due.ruled("spring 0;");
        x.basin(90, 20, 20);
        x.basin(80, 20, 0);
        x.siphon(0, 1, 19, 0, 9, 0);
        x.want(0, 0, 0, 0);
        x.want(3, 1, 1, 3);
        x.want(3, 1, 0, 2);
        // Both TICKS carry 9: what is to stay below is 3, whatever else is dug.
        digsAre("BASIN 1 to 3", x, 1, 17, 2, 1, 3);
        NoonBasins y = Due.ruled("spring 0;sun if room=7 and height=5?0:level end;");
        y.basin(90, 20, 20);
        for (int b = 1; b < 10; b++) {
            y.basin(b == 9 ? 5 : 6, 8, 1);
        }
        y.want(2, 0, 9, 1);
        digsAre("BASIN 9 to 7", y, 1, 1, 2, 9, 7);
    }

    /** As many as there can be: the last BORE, CREST and ROOM can be dug too. */
    private static void digOfTheLast() {
        Due.promise(20, "dig: of SIPHONS 0 .. 13, of BASINS 0 .. 9");
        NoonBasins x = Due.ruled("spring 0;");
        for (int b = 0; b < 10; b++) {
            x.basin(50, 20, 9);
        }
        for (int s = 0; s < 14; s++) {
            x.siphon(s == 13 ? 8 : 7, NONE, s == 13 ? 15 : 20, s == 13 ? 3 : 0, 2, 0);
        }
        x.want(0, 0, 13, 0);
        digsAre("CREST of SIPHON 13", x, 1, 6, 1, 13, 9);
        NoonBasins u = Due.ruled("spring 0;");
        u.basin(50, 20, 9);
        for (int s = 0; s < 14; s++) {
            u.siphon(0, NONE, 20, s == 0 ? 0 : 9, 1, 0);
        }
        u.image();
        for (int s = 0; s < 14; s++) {
            u.back();
            u.want(0, 0, s, 0);
            if (s == 0) {
                digsAre("CREST of SIPHON 0, BARE 0", u, 1, 11, 1, 0, 9);
            } else {
                digsAre("CREST of SIPHON " + s + ", BARE 9", u, 1);
            }
        }
        NoonBasins y = Due.ruled("spring 0;");
        for (int b = 0; b < 10; b++) {
            y.basin(50, 20, 9);
        }
        for (int s = 0; s < 14; s++) {
            y.siphon(s == 13 ? 8 : 7, NONE, 9, 0, s == 13 ? 2 : 9, 0);
        }
        y.want(3, 0, 8, 4);
        digsAre("BORE of SIPHON 13", y, 1, 3, 0, 13, 5);
        NoonBasins z = Due.ruled("spring 0;sun if room=17?0:level end;");
        for (int b = 0; b < 10; b++) {
            z.basin(50, 20, 9);
        }
        for (int s = 0; s < 14; s++) {
            z.siphon(7, NONE, 20, 0, 9, 0);
        }
        z.image();
        z.want(2, 0, 9, 9);
        digsAre("ROOM of BASIN 9", z, 1, 3, 2, 9, 17);
        z.back();
        z.want(2, 0, 7, 9);
        digsAre("ROOM of BASIN 7 isn't below a CREST", z, 1);
        // One that is there no more binds no ROOM.
        NoonBasins w = Due.ruled("spring 9;basin 9,8,0;");
        w.basin(9, 8, 0);
        w.siphon(0, NONE, 8, 0, 1, 0);
        w.laid(0);
        w.want(3, 0, 0, 4);
        digsAre("the SIPHON is gone", w, 1, 4, 2, 0, 4);
        // Few SIPHONS and many BASINS.
        NoonBasins v = Due.ruled("spring 0;");
        for (int b = 0; b < 10; b++) {
            v.basin(50, 20, 9);
        }
        for (int s = 0; s < 5; s++) {
            v.siphon(9, NONE, 20, 0, 1, 0);
        }
        v.want(2, 0, 3, 20);
        digsAre("none does", v, 1);
    }

    /** One that RUNS already starts no more: its BORE matters all the same, its CREST doesn't. */
    private static void digOfOneThatRuns() {
        Due.promise(20, "dig: of one that RUNS");
        NoonBasins x = Due.ruled("spring 0;");
        x.basin(9, 99, 99);
        x.siphon(0, NONE, 99, 0, 3, 0);
        x.ticks(1);
        Due.is("it RUNS", x.of(0, 0), 1);
        x.image();
        x.want(3, 0, 0, 91);
        digsAre("a BORE of 5", x, 1, 2, 0, 0, 5);
        x.back();
        x.want(1, 0, 0, 0);
        digsAre("no CREST stops it", x, 1);
        x.back();
        x.want(2, 0, 0, 95);
        digsAre("a BORE of 1", x, 1, 2, 0, 0, 1);
    }

    private static void digOrder() {
        Due.promise(20, "dig: that by which the number changes least, of like ones the first");
        // Behind TICK 0 there are 9 less 5: a BORE of 4, a CREST of 10 or a sun less by ROOM would do.
        NoonBasins x = Due.ruled("spring 0;");
        x.basin(9, 10, 9);
        x.siphon(0, NONE, 9, 0, 5, 0);
        x.want(2, 0, 0, 5);
        digsAre("BORE ahead of CREST", x, 1, 1, 0, 0, 4);
        x.want(2, 0, 0, 6);
        digsAre("less change ahead of the order", x, 1, 1, 1, 0, 10);
        NoonBasins y = Due.ruled("spring 0;sun if room=10?1:0 end;");
        y.basin(9, 10, 9);
        y.siphon(0, NONE, 9, 8, 1, 0);
        y.want(2, 0, 0, 8);
        digsAre("CREST ahead of ROOM", y, 1, 1, 1, 0, 10);
        NoonBasins z = Due.ruled("spring 0;sun if room=10?1:0 end;");
        z.basin(9, 10, 9);
        z.want(2, 0, 0, 9);
        digsAre("9 ahead of 11", z, 1, 1, 2, 0, 9);
        NoonBasins w = Due.ruled("spring 0;flow if bore=5?0:1 end;");
        w.basin(9, 10, 9);
        w.siphon(0, NONE, 9, 0, 5, 0);
        w.siphon(0, NONE, 9, 0, 5, 0);
        w.want(3, 0, 0, 8);
        digsAre("4 ahead of 6, SIPHON 0 ahead of SIPHON 1", w, 1, 1, 0, 0, 4);
        NoonBasins v = Due.ruled("spring 0;flow if bore=5 or bore=4?0:1 end;");
        v.basin(9, 10, 9);
        v.siphon(0, NONE, 9, 0, 4, 0);
        v.siphon(0, NONE, 9, 0, 5, 0);
        v.want(3, 0, 0, 8);
        digsAre("SIPHON 0 to 3", v, 1, 1, 0, 0, 3);
        NoonBasins u = Due.ruled("spring 0;sun if room=10?level:0 end;");
        u.basin(9, 10, 9);
        u.basin(9, 10, 9);
        u.want(2, 0, 1, 9);
        digsAre("BASIN 1", u, 1, 1, 2, 1, 9);
    }

    private static void digNone() {
        Due.promise(20, "dig: none (also if all are met without)");
        NoonBasins x = Due.ruled("spring 1;");
        Due.read(x, "spring 2;");
        x.basin(9, 9, 5);
        digsAre("without WANTS", x, 1);
        x.want(2, 0, 0, 6);
        digsAre("all are met", x, 1);
        digsAre("all are met", x, 3);
        x.want(3, 0, 0, 6);
        digsAre("all are met by the first", x, 1);
        digsAre("not by the second", x, 2, 3, 2, 0, 6);
        digsAre("by both", x, 3, 3, 2, 0, 6);
        Due.is("nothing is dug", x.about(30), 9);
        // TURNS are none of it: what just a turn would bring can't be dug.
        NoonBasins y = Due.ruled("spring 0;");
        y.basin(9, 9, 9);
        y.siphon(0, NONE, 9, 0, 1, 0);
        y.cock(0, false);
        y.want(0, 0, 0, 0);
        Due.is("a turn would do", y.turnsOf(0), 1);
        digsAre("no digging does", y, 1);
        NoonBasins z = withWantsOfWhatGoes(0);
        z.laid(0);
        digsAre("of what is there no more", z, 1);
    }
}
