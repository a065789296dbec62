/** Promises 1 to 5, 12, 13 and 31, sentence by sentence: the last that is taken, the first that is refused. */
public final class BuildEdgesTest {
    private static final int NONE = NoonBasins.NONE;
    private static final Twins RICH = new Twins(Twins::rich);
    private static final Twins FULL = new Twins(Twins::full);
    private static final Twins DESERT = new Twins(Twins::desert);

    public static void main(String[] args) {
        aNewObject();
        theImageOfANewObject();
        basinNumbers();
        basinCount();
        siphonEnds();
        siphonEndsOfTen();
        siphonNumbers();
        siphonCount();
        siphonAtFirst();
        clogs();
        cocks();
        drops();
        ofs();
        abouts();
        Due.close();
    }

    private static void aNewObject() {
        Due.promise(1, "a new object");
        NoonBasins x = new NoonBasins();
        Due.is("THE TICK", x.about(0), 0);
        Due.is("BASINS", x.about(1), 0);
        Due.is("SIPHONS", x.about(2), 0);
        Due.is("TEXTS", x.about(3), 0);
        Due.is("THE TEXT", x.about(4), NONE);
        Due.is("THE VILLAGE", x.about(5), 0);
        Due.is("THE VILLAGE in this DAY", x.about(6), 0);
        Due.is("WANTS", x.about(7), 0);
        Due.is("HEARD", x.about(8), 0);
        Due.is("lines", x.about(9), 0);
        Due.is("bytes", x.about(10), 0);
        Due.is("the HEIGHT of none", x.about(20), -2);
        Due.is("the ROOM of none", x.about(30), -2);
        Due.is("drops(0)", x.drops(0), NONE);
        Due.is("of(0, 0)", x.of(0, 0), NONE);
        Due.is("the first BASIN", x.basin(5, 5, 5), 0);
        Due.is("the first SIPHON", x.siphon(0, NONE, 1, 0, 1, 0), 0);
        Due.is("the first WANT", x.want(0, 0, 0, 0), 1);
        Due.is("the first HEARD", x.heard(0, 0, true), 1);
        Due.is("the first line", x.line(0, 0, true), 1);
        Due.is("the first TEXT", x.text(), 0);
    }

    private static void theImageOfANewObject() {
        Due.promise(1, "THE IMAGE is this");
        Due.is("back() at once", new NoonBasins().back(), 0);
        NoonBasins y = new NoonBasins();
        y.basin(9, 9, 9);
        y.siphon(0, NONE, 9, 0, 9, 9);
        Due.read(y, "due 5;");
        y.by(0);
        y.want(0, 0, 0, 0);
        y.heard(0, 0, true);
        y.line(0, 0, true);
        y.ticks(30);
        y.feed(1, 2, 3, 4, 5);
        Due.is("back()", y.back(), 0);
        for (int i = 0; i <= 9; i++) {
            Due.is("about(" + i + ") behind it", y.about(i), i == 4 ? NONE : 0);
        }
        Due.is("the tape stays", y.about(10), 20);
        Due.is("drops(0)", y.drops(0), NONE);
        Due.is("of(0, 0)", y.of(0, 0), NONE);
        Due.is("by(0)", y.by(0), false);
        Due.is("laid(0)", y.laid(0), -2);
    }

    private static void basinTaken(int height, int room, int drops) {
        NoonBasins x = new NoonBasins();
        Twins.rich(x);
        String name = "basin(" + height + ", " + room + ", " + drops + ")";
        Due.is(name, x.basin(height, room, drops), 3);
        Due.is("BASINS behind " + name, x.about(1), 4);
        Due.is("its HEIGHT", x.about(23), height);
        Due.is("its ROOM", x.about(33), room);
        Due.is("its DROPS", x.drops(3), drops);
        Due.is("no other is there", x.drops(4), NONE);
        RICH.take(name, 3, y -> y.basin(height, room, drops));
    }

    private static void basinRefused(int height, int room, int drops) {
        String name = "basin(" + height + ", " + room + ", " + drops + ")";
        RICH.refuse(name, NONE, x -> x.basin(height, room, drops));
    }

    private static void basinNumbers() {
        Due.promise(2, "basin: HEIGHT 0 .. 99");
        basinRefused(Integer.MIN_VALUE, 5, 3);
        basinRefused(-1, 5, 3);
        basinTaken(0, 5, 3);
        basinTaken(99, 5, 3);
        basinRefused(100, 5, 3);
        basinRefused(Integer.MAX_VALUE, 5, 3);
        Due.promise(2, "basin: ROOM 1 .. 99");
        basinRefused(5, Integer.MIN_VALUE, 0);
        basinRefused(5, -1, 0);
        basinRefused(5, 0, 0);
        basinTaken(5, 1, 0);
        basinTaken(5, 99, 0);
        basinRefused(5, 100, 0);
        basinRefused(5, Integer.MAX_VALUE, 0);
        Due.promise(2, "basin: DROPS 0 .. ROOM");
        basinRefused(5, 7, Integer.MIN_VALUE);
        basinRefused(5, 7, -1);
        basinTaken(5, 7, 0);
        basinTaken(5, 7, 7);
        basinRefused(5, 7, 8);
        basinTaken(5, 1, 1);
        basinRefused(5, 1, 2);
        basinTaken(5, 99, 99);
        basinRefused(5, 99, 100);
        basinRefused(5, 99, Integer.MAX_VALUE);
    }

    private static void basinCount() {
        Due.promise(2, "basin: BASINS 0 .. 9");
        NoonBasins x = new NoonBasins();
        for (int b = 0; b < 10; b++) {
            Due.is("BASIN " + b, x.basin(b, 50 + b, 40 + b), b);
            Due.is("how many", x.about(1), b + 1);
        }
        for (int b = 0; b < 10; b++) {
            Due.is("HEIGHT of " + b, x.about(20 + b), b);
            Due.is("ROOM of " + b, x.about(30 + b), 50 + b);
            Due.is("DROPS of " + b, x.drops(b), 40 + b);
        }
        FULL.refuse("an eleventh", NONE, y -> y.basin(5, 5, 5));
        FULL.refuse("an eleventh that can't be", NONE, y -> y.basin(-1, 5, 5));
        DESERT.take("the first one again", 0, y -> y.basin(5, 5, 5));
    }

    private static void siphonRefused(int from, int to, int crest, int bare, int bore, int rest) {
        String name = "siphon(" + from + ", " + to + ", " + crest + ", " + bare + ", " + bore + ", " + rest + ")";
        RICH.refuse(name, NONE, x -> x.siphon(from, to, crest, bare, bore, rest));
    }

    private static void siphonTaken(int from, int to, int crest, int bare, int bore, int rest) {
        NoonBasins x = new NoonBasins();
        Twins.rich(x);
        String name = "siphon(" + from + ", " + to + ", " + crest + ", " + bare + ", " + bore + ", " + rest + ")";
        Due.is(name, x.siphon(from, to, crest, bare, bore, rest), 4);
        Due.is("SIPHONS behind " + name, x.about(2), 5);
        int[] due = {0, 0, 1, crest, bore, 0};
        for (int what = 0; what < 6; what++) {
            Due.is("of(4, " + what + ") behind " + name, x.of(4, what), due[what]);
        }
        Due.is("no other is there", x.of(5, 0), NONE);
        RICH.take(name, 4, y -> y.siphon(from, to, crest, bare, bore, rest));
    }

    /** The rich palace has BASINS of HEIGHT 90, 60 and 30, with ROOM for 12, 9 and 20. */
    private static void siphonEnds() {
        Due.promise(3, "siphon: FROM a BASIN");
        siphonRefused(Integer.MIN_VALUE, NONE, 5, 1, 3, 1);
        siphonRefused(NONE, NONE, 5, 1, 3, 1);
        siphonTaken(0, NONE, 5, 1, 3, 1);
        siphonTaken(2, NONE, 5, 1, 3, 1);
        siphonRefused(3, NONE, 5, 1, 3, 1);
        siphonRefused(99, NONE, 5, 1, 3, 1);
        siphonRefused(Integer.MAX_VALUE, NONE, 5, 1, 3, 1);
        Due.promise(3, "siphon: TO a BASIN, or the garden");
        siphonRefused(0, Integer.MIN_VALUE, 5, 1, 3, 1);
        siphonRefused(0, -2, 5, 1, 3, 1);
        siphonTaken(0, 2, 5, 1, 3, 1);
        siphonRefused(0, 3, 5, 1, 3, 1);
        siphonRefused(0, 10, 5, 1, 3, 1);
        siphonRefused(0, 99, 5, 1, 3, 1);
        siphonRefused(0, Integer.MAX_VALUE, 5, 1, 3, 1);
        Due.promise(3, "siphon: TO another one of less HEIGHT");
        siphonTaken(1, 2, 5, 1, 3, 1);
        siphonRefused(1, 1, 5, 1, 3, 1);
        siphonRefused(1, 0, 5, 1, 3, 1);
        siphonRefused(2, 0, 5, 1, 3, 1);
        NoonBasins x = new NoonBasins();
        x.basin(1, 9, 5);
        x.basin(0, 9, 5);
        x.basin(1, 9, 5);
        x.basin(2, 9, 5);
        x.basin(99, 9, 5);
        Due.is("one less", x.siphon(0, 1, 5, 1, 3, 1), 0);
        Due.is("as high", x.siphon(0, 2, 5, 1, 3, 1), NONE);
        Due.is("one more", x.siphon(0, 3, 5, 1, 3, 1), NONE);
        Due.is("from HEIGHT 0 to one more", x.siphon(1, 0, 5, 1, 3, 1), NONE);
        Due.is("from HEIGHT 0 to the garden", x.siphon(1, NONE, 5, 1, 3, 1), 1);
        Due.is("to a lower number that is less high", x.siphon(3, 0, 5, 1, 3, 1), 2);
        Due.is("from HEIGHT 99 to HEIGHT 0", x.siphon(4, 1, 5, 1, 3, 1), 3);
        Due.is("so many came", x.about(2), 4);
        DESERT.refuse("siphon without BASINS", NONE, y -> y.siphon(0, NONE, 1, 0, 1, 0));
    }

    private static void siphonEndsOfTen() {
        Due.promise(3, "siphon: BASINS 0 .. 9 as its ends");
        NoonBasins x = new NoonBasins();
        for (int b = 0; b < 10; b++) {
            x.basin(50 - b, 9, 5);
        }
        Due.is("to BASIN 9", x.siphon(8, 9, 5, 1, 3, 1), 0);
        Due.is("from BASIN 9", x.siphon(9, NONE, 5, 1, 3, 1), 1);
        Due.is("to BASIN 10", x.siphon(8, 10, 5, 1, 3, 1), NONE);
        Due.is("from BASIN 10", x.siphon(10, NONE, 5, 1, 3, 1), NONE);
        Due.is("so many came", x.about(2), 2);
    }

    private static void siphonNumbers() {
        Due.promise(3, "siphon: CREST 1 .. ROOM of FROM");
        siphonRefused(0, 1, Integer.MIN_VALUE, 0, 3, 1);
        siphonRefused(0, 1, -1, 0, 3, 1);
        siphonRefused(0, 1, 0, 0, 3, 1);
        siphonTaken(0, 1, 1, 0, 3, 1);
        siphonTaken(0, 1, 12, 0, 3, 1);
        siphonRefused(0, 1, 13, 0, 3, 1);
        siphonTaken(1, 2, 9, 0, 3, 1);
        siphonRefused(1, 2, 10, 0, 3, 1);
        siphonRefused(0, 1, Integer.MAX_VALUE, 0, 3, 1);
        Due.promise(3, "siphon: BARE 0 .. CREST - 1");
        siphonRefused(0, 1, 6, Integer.MIN_VALUE, 3, 1);
        siphonRefused(0, 1, 6, -1, 3, 1);
        siphonTaken(0, 1, 6, 0, 3, 1);
        siphonTaken(0, 1, 6, 5, 3, 1);
        siphonRefused(0, 1, 6, 6, 3, 1);
        siphonRefused(0, 1, 6, 7, 3, 1);
        siphonRefused(0, 1, 1, 1, 3, 1);
        siphonTaken(0, 1, 12, 11, 3, 1);
        siphonRefused(0, 1, 12, 12, 3, 1);
        siphonRefused(0, 1, 6, Integer.MAX_VALUE, 3, 1);
        Due.promise(3, "siphon: BORE 1 .. 9");
        siphonRefused(0, 1, 6, 2, Integer.MIN_VALUE, 1);
        siphonRefused(0, 1, 6, 2, 0, 1);
        siphonTaken(0, 1, 6, 2, 1, 1);
        siphonTaken(0, 1, 6, 2, 9, 1);
        siphonRefused(0, 1, 6, 2, 10, 1);
        siphonRefused(0, 1, 6, 2, Integer.MAX_VALUE, 1);
        Due.promise(3, "siphon: REST 0 .. 9");
        siphonRefused(0, 1, 6, 2, 3, Integer.MIN_VALUE);
        siphonRefused(0, 1, 6, 2, 3, -1);
        siphonTaken(0, 1, 6, 2, 3, 0);
        siphonTaken(0, 1, 6, 2, 3, 9);
        siphonRefused(0, 1, 6, 2, 3, 10);
        siphonRefused(0, 1, 6, 2, 3, Integer.MAX_VALUE);
    }

    private static void siphonCount() {
        Due.promise(3, "siphon: SIPHONS 0 .. 13");
        NoonBasins x = new NoonBasins();
        x.basin(5, 30, 0);
        for (int s = 0; s < 14; s++) {
            Due.is("SIPHON " + s, x.siphon(0, NONE, 10 + s, 0, 1 + s % 9, 0), s);
            Due.is("how many", x.about(2), s + 1);
        }
        for (int s = 0; s < 14; s++) {
            Due.is("CREST of " + s, x.of(s, 3), 10 + s);
            Due.is("BORE of " + s, x.of(s, 4), 1 + s % 9);
        }
        FULL.refuse("a fifteenth", NONE, y -> y.siphon(0, NONE, 5, 0, 1, 0));
        FULL.refuse("a fifteenth that can't be", NONE, y -> y.siphon(10, NONE, 5, 0, 1, 0));
    }

    /** One in the place of one that ran, rested, was clogged and shut: it is as at first. */
    private static void siphonAtFirst() {
        Due.promise(3, "siphon: as it is at first");
        NoonBasins x = new NoonBasins();
        x.basin(9, 9, 9);
        x.image();
        x.siphon(0, NONE, 9, 8, 9, 9);
        x.siphon(0, NONE, 9, 0, 1, 9);
        x.ticks(1);
        Due.is("0 rests", x.of(0, 1), 9);
        Due.is("1 runs", x.of(1, 0), 1);
        for (int s = 0; s < 2; s++) {
            x.clog(s, 9);
            x.cock(s, false);
        }
        Due.read(x, "basin 9,9,9;siphon 0,99,9,8,9;siphon 0,99,9,0,1;");
        Due.is("laid(0)", x.laid(0), NONE);
        asAtFirst(x);
        x.back();
        x.siphon(0, NONE, 9, 8, 9, 9);
        x.siphon(0, NONE, 9, 0, 1, 9);
        asAtFirst(x);
    }

    private static void asAtFirst(NoonBasins x) {
        for (int s = 0; s < 2; s++) {
            Due.is("RUNS of " + s, x.of(s, 0), 0);
            Due.is("RESTS of " + s, x.of(s, 1), 0);
            Due.is("COCK of " + s, x.of(s, 2), 1);
            Due.is("CLOG of " + s, x.of(s, 5), 0);
        }
    }

    private static void clogs() {
        Due.promise(4, "clog: of a SIPHON");
        RICH.refuse("clog(MIN, 5)", x -> x.clog(Integer.MIN_VALUE, 5));
        RICH.refuse("clog(-1, 5)", x -> x.clog(-1, 5));
        RICH.take("clog(0, 5)", 1, x -> x.clog(0, 5) ? 1 : 0);
        RICH.take("clog(3, 5)", 1, x -> x.clog(3, 5) ? 1 : 0);
        RICH.refuse("clog(4, 5)", x -> x.clog(4, 5));
        RICH.refuse("clog(14, 5)", x -> x.clog(14, 5));
        RICH.refuse("clog(MAX, 5)", x -> x.clog(Integer.MAX_VALUE, 5));
        FULL.take("clog(13, 5)", 1, x -> x.clog(13, 5) ? 1 : 0);
        FULL.refuse("clog(14, 5)", x -> x.clog(14, 5));
        DESERT.refuse("clog(0, 5)", x -> x.clog(0, 5));
        Due.promise(4, "clog: 0 .. 9");
        RICH.refuse("clog(0, MIN)", x -> x.clog(0, Integer.MIN_VALUE));
        RICH.refuse("clog(0, -1)", x -> x.clog(0, -1));
        RICH.refuse("clog(0, 10)", x -> x.clog(0, 10));
        RICH.refuse("clog(0, MAX)", x -> x.clog(0, Integer.MAX_VALUE));
        NoonBasins x = new NoonBasins();
        Twins.rich(x);
        Due.is("at first", x.of(0, 5), 0);
        Due.is("clog(0, 9)", x.clog(0, 9), true);
        Due.is("CLOG", x.of(0, 5), 9);
        Due.is("of another one", x.of(1, 5), 1);
        Due.is("clog(0, 0)", x.clog(0, 0), true);
        Due.is("CLOG", x.of(0, 5), 0);
        Due.is("again", x.clog(0, 0), true);
    }

    private static void cocks() {
        Due.promise(5, "cock");
        RICH.refuse("cock(MIN, false)", x -> x.cock(Integer.MIN_VALUE, false));
        RICH.refuse("cock(-1, false)", x -> x.cock(-1, false));
        RICH.take("cock(0, false)", 1, x -> x.cock(0, false) ? 1 : 0);
        RICH.take("cock(3, false)", 1, x -> x.cock(3, false) ? 1 : 0);
        RICH.refuse("cock(4, false)", x -> x.cock(4, false));
        RICH.refuse("cock(4, true)", x -> x.cock(4, true));
        RICH.refuse("cock(32, false)", x -> x.cock(32, false));
        RICH.refuse("cock(MAX, false)", x -> x.cock(Integer.MAX_VALUE, false));
        FULL.take("cock(13, false)", 1, x -> x.cock(13, false) ? 1 : 0);
        FULL.refuse("cock(14, false)", x -> x.cock(14, false));
        DESERT.refuse("cock(0, false)", x -> x.cock(0, false));
        NoonBasins x = new NoonBasins();
        Twins.full(x);
        Due.is("open at first", x.of(13, 2), 1);
        Due.is("shut", x.cock(13, false), true);
        Due.is("is shut", x.of(13, 2), 0);
        Due.is("of another one", x.of(12, 2), 1);
        Due.is("shut again", x.cock(13, false), true);
        Due.is("is shut", x.of(13, 2), 0);
        Due.is("open", x.cock(13, true), true);
        Due.is("is open", x.of(13, 2), 1);
        Due.is("open again", x.cock(13, true), true);
        Due.is("is open", x.of(13, 2), 1);
    }

    private static void drops() {
        Due.promise(12, "drops");
        RICH.refuse("drops(MIN)", NONE, x -> x.drops(Integer.MIN_VALUE));
        RICH.refuse("drops(-1)", NONE, x -> x.drops(-1));
        RICH.refuse("drops(3)", NONE, x -> x.drops(3));
        RICH.refuse("drops(MAX)", NONE, x -> x.drops(Integer.MAX_VALUE));
        FULL.refuse("drops(10)", NONE, x -> x.drops(10));
        DESERT.refuse("drops(0)", NONE, x -> x.drops(0));
        NoonBasins x = new NoonBasins();
        x.basin(5, 99, 0);
        x.basin(5, 99, 99);
        Due.is("drops(0)", x.drops(0), 0);
        Due.is("drops(1)", x.drops(1), 99);
        Due.is("drops(2)", x.drops(2), NONE);
    }

    private static void ofs() {
        Due.promise(13, "of: a SIPHON");
        for (int what = 0; what <= 5; what++) {
            int w = what;
            RICH.refuse("of(-1, " + w + ")", NONE, x -> x.of(-1, w));
            RICH.refuse("of(4, " + w + ")", NONE, x -> x.of(4, w));
            FULL.refuse("of(14, " + w + ")", NONE, x -> x.of(14, w));
            DESERT.refuse("of(0, " + w + ")", NONE, x -> x.of(0, w));
        }
        RICH.refuse("of(MIN, 0)", NONE, x -> x.of(Integer.MIN_VALUE, 0));
        RICH.refuse("of(MAX, 0)", NONE, x -> x.of(Integer.MAX_VALUE, 0));
        Due.promise(13, "of: 0 .. 5");
        RICH.refuse("of(0, MIN)", NONE, x -> x.of(0, Integer.MIN_VALUE));
        RICH.refuse("of(0, -1)", NONE, x -> x.of(0, -1));
        RICH.refuse("of(0, 6)", NONE, x -> x.of(0, 6));
        RICH.refuse("of(0, MAX)", NONE, x -> x.of(0, Integer.MAX_VALUE));
        NoonBasins x = new NoonBasins();
        x.basin(9, 9, 9);
        x.siphon(0, NONE, 9, 0, 3, 4);
        x.clog(0, 2);
        Due.is("doesn't RUN", x.of(0, 0), 0);
        x.ticks(1);
        Due.is("RUNS", x.of(0, 0), 1);
        Due.is("doesn't REST", x.of(0, 1), 0);
        Due.is("CREST", x.of(0, 3), 9);
        Due.is("BORE", x.of(0, 4), 3);
        Due.is("CLOG", x.of(0, 5), 2);
        x.cock(0, false);
        Due.is("COCK", x.of(0, 2), 0);
        x.ticks(1);
        Due.is("doesn't RUN", x.of(0, 0), 0);
        Due.is("RESTS", x.of(0, 1), 4);
    }

    private static void abouts() {
        Due.promise(31, "about");
        int[] others = {Integer.MIN_VALUE, -2, -1, 11, 12, 19, 40, 41, 99, Integer.MAX_VALUE};
        for (int what : others) {
            RICH.refuse("about(" + what + ")", -2, x -> x.about(what));
            FULL.refuse("about(" + what + ")", -2, x -> x.about(what));
        }
        RICH.refuse("HEIGHT of BASIN 3", -2, x -> x.about(23));
        RICH.refuse("ROOM of BASIN 3", -2, x -> x.about(33));
        RICH.refuse("about(29)", -2, x -> x.about(29));
        RICH.refuse("about(39)", -2, x -> x.about(39));
        DESERT.refuse("HEIGHT of BASIN 0", -2, x -> x.about(20));
        DESERT.refuse("ROOM of BASIN 0", -2, x -> x.about(30));
        NoonBasins x = new NoonBasins();
        Twins.full(x);
        int[] due = {2, 10, 14, 4, 2, x.about(5), x.about(6), 8, 20, 12, 300};
        for (int what = 0; what <= 10; what++) {
            Due.is("about(" + what + ")", x.about(what), due[what]);
        }
        for (int b = 0; b < 10; b++) {
            Due.is("HEIGHT of " + b, x.about(20 + b), 99 - b);
            Due.is("ROOM of " + b, x.about(30 + b), 20 + b);
        }
        NoonBasins y = new NoonBasins();
        y.basin(0, 1, 0);
        Due.is("HEIGHT 0", y.about(20), 0);
        Due.is("ROOM 1", y.about(30), 1);
    }
}
