/** Promises 1 to 5, 12 to 16, 24, 25 and 28 to 31: what is built, how it moves, what comes. */
public final class WaterTest {
    public static void main(String[] args) {
        aNewOne();
        basins();
        siphons();
        clogsAndCocks();
        startsAndStops();
        shared();
        fallingOver();
        theVillage();
        theLastTick();
        playing();
        rounds();
        fullPalace();
        frosts();
        shortness();
        images();
        abouts();
        Due.close();
    }

    private static void aNewOne() {
        Due.promise(1, "a new object");
        NoonBasins x = new NoonBasins();
        Due.is("NONE", NoonBasins.NONE, -1);
        for (int i = 0; i <= 10; i++) {
            Due.is("about(" + i + ")", x.about(i), i == 4 ? -1 : 0);
        }
        Due.is("about(20)", x.about(20), -2);
        x.basin(1, 1, 1);
        x.ticks(5);
        Due.is("back() to the new one", x.back(), 0);
        Due.is("about(1)", x.about(1), 0);
    }

    private static void basins() {
        Due.promise(2, "basin");
        NoonBasins x = new NoonBasins();
        Due.is("height -1", x.basin(-1, 5, 0), -1);
        Due.is("height 100", x.basin(100, 5, 0), -1);
        Due.is("room 0", x.basin(5, 0, 0), -1);
        Due.is("room 100", x.basin(5, 100, 0), -1);
        Due.is("drops -1", x.basin(5, 5, -1), -1);
        Due.is("drops above room", x.basin(5, 5, 6), -1);
        Due.is("none came", x.about(1), 0);
        Due.is("least", x.basin(0, 1, 0), 0);
        Due.is("most", x.basin(99, 99, 99), 1);
        for (int i = 2; i < 10; i++) {
            Due.is("basin " + i, x.basin(i, 10, i), i);
        }
        Due.is("an eleventh", x.basin(5, 5, 5), -1);
        Due.is("about(1)", x.about(1), 10);
        Due.promise(12, "drops");
        Due.is("drops(1)", x.drops(1), 99);
        Due.is("drops(9)", x.drops(9), 9);
        Due.is("drops(10)", x.drops(10), -1);
        Due.is("drops(-1)", x.drops(-1), -1);
    }

    private static void siphons() {
        Due.promise(3, "siphon");
        NoonBasins x = new NoonBasins();
        Due.is("no basins", x.siphon(0, -1, 1, 0, 1, 0), -1);
        x.basin(50, 10, 4);
        x.basin(50, 10, 4);
        x.basin(49, 10, 4);
        Due.is("to one as high", x.siphon(0, 1, 5, 0, 1, 0), -1);
        Due.is("to itself", x.siphon(0, 0, 5, 0, 1, 0), -1);
        Due.is("to a higher one", x.siphon(2, 0, 5, 0, 1, 0), -1);
        Due.is("to none that is there", x.siphon(0, 3, 5, 0, 1, 0), -1);
        Due.is("to -2", x.siphon(0, -2, 5, 0, 1, 0), -1);
        Due.is("to 99", x.siphon(0, 99, 5, 0, 1, 0), -1);
        Due.is("from -1", x.siphon(-1, 0, 5, 0, 1, 0), -1);
        Due.is("from 3", x.siphon(3, -1, 5, 0, 1, 0), -1);
        Due.is("crest 0", x.siphon(0, 2, 0, 0, 1, 0), -1);
        Due.is("crest above room", x.siphon(0, 2, 11, 0, 1, 0), -1);
        Due.is("bare as crest", x.siphon(0, 2, 5, 5, 1, 0), -1);
        Due.is("bare -1", x.siphon(0, 2, 5, -1, 1, 0), -1);
        Due.is("bore 0", x.siphon(0, 2, 5, 0, 0, 0), -1);
        Due.is("bore 10", x.siphon(0, 2, 5, 0, 10, 0), -1);
        Due.is("rest -1", x.siphon(0, 2, 5, 0, 1, -1), -1);
        Due.is("rest 10", x.siphon(0, 2, 5, 0, 1, 10), -1);
        Due.is("none came", x.about(2), 0);
        Due.is("one", x.siphon(0, 2, 10, 9, 9, 9), 0);
        for (int i = 1; i < 14; i++) {
            Due.is("siphon " + i, x.siphon(1, -1, 1, 0, 1, 0), i);
        }
        Due.is("a fifteenth", x.siphon(1, -1, 1, 0, 1, 0), -1);
        Due.promise(13, "of");
        int[] due = {0, 0, 1, 10, 9, 0};
        for (int i = 0; i < 6; i++) {
            Due.is("of(0, " + i + ")", x.of(0, i), due[i]);
        }
        Due.is("of(0, 6)", x.of(0, 6), -1);
        Due.is("of(0, -1)", x.of(0, -1), -1);
        Due.is("of(14, 0)", x.of(14, 0), -1);
        Due.is("of(-1, 0)", x.of(-1, 0), -1);
    }

    private static void clogsAndCocks() {
        Due.promise(4, "clog");
        NoonBasins x = new NoonBasins();
        x.basin(9, 50, 50);
        x.siphon(0, -1, 20, 0, 5, 2);
        Due.is("clog of none", x.clog(1, 0), false);
        Due.is("clog of -1", x.clog(-1, 0), false);
        Due.is("clog -1", x.clog(0, -1), false);
        Due.is("clog 10", x.clog(0, 10), false);
        Due.is("clog 3", x.clog(0, 3), true);
        Due.is("of(0, 5)", x.of(0, 5), 3);
        // 51 are there, 2 are carried, none falls over.
        Due.is("ticks(1)", x.ticks(1), 2);
        Due.is("clog 9", x.clog(0, 9), true);
        Due.is("plays, and carries none", x.plays(0), 1);
        Due.is("ticks(1)", x.ticks(1), 0);
        Due.is("drops(0)", x.drops(0), 50);
        Due.is("still runs", x.of(0, 0), 1);
        Due.promise(5, "cock");
        Due.is("cock of none", x.cock(1, true), false);
        Due.is("cock of -1", x.cock(-1, true), false);
        Due.is("shut", x.cock(0, false), true);
        Due.is("of(0, 2)", x.of(0, 2), 0);
        Due.is("runs until the TICK", x.of(0, 0), 1);
        Due.is("doesn't play", x.plays(0), 0);
        x.ticks(1);
        Due.is("stopped", x.of(0, 0), 0);
        Due.is("and rests", x.of(0, 1), 2);
        Due.is("open", x.cock(0, true), true);
        Due.is("rests a TICK", x.plays(0), 0);
        Due.is("and another one", x.plays(1), 0);
        Due.is("then plays", x.plays(2), 1);
    }

    private static void startsAndStops() {
        Due.promise(14, "ticks");
        NoonBasins x = new NoonBasins();
        x.basin(9, 9, 2);
        x.siphon(0, -1, 4, 1, 2, 0);
        Due.is("3 drops: no start", x.ticks(1), 0);
        Due.is("of(0, 0)", x.of(0, 0), 0);
        Due.is("4 drops, to the crest: starts", x.ticks(1), 2);
        Due.is("of(0, 0)", x.of(0, 0), 1);
        Due.is("3 drops: 2 are carried, bare then", x.ticks(1), 2);
        Due.is("drops(0)", x.drops(0), 1);
        Due.is("stops at once", x.of(0, 0), 0);
        Due.is("REST 0: no rest", x.of(0, 1), 0);
        // The sun takes drops behind the siphons' turns, so a siphon that runs may find its lip bare.
        NoonBasins y = new NoonBasins();
        y.basin(9, 9, 9);
        y.siphon(0, -1, 8, 3, 1, 3);
        Due.read(y, "spring 0;sun 5;");
        y.by(0);
        Due.is("plays", y.ticks(1), 1);
        Due.is("drops(0)", y.drops(0), 3);
        Due.is("runs on", y.of(0, 0), 1);
        Due.is("stops ahead of playing", y.plays(0), 0);
        Due.is("ticks(1)", y.ticks(1), 0);
        Due.is("of(0, 0)", y.of(0, 0), 0);
        Due.is("of(0, 1)", y.of(0, 1), 3);
        y.ticks(1);
        Due.is("one less", y.of(0, 1), 2);
        y.ticks(2);
        Due.is("none", y.of(0, 1), 0);
        y.ticks(1);
        Due.is("none", y.of(0, 1), 0);
    }

    private static void shared() {
        Due.promise(14, "ticks: siphon by siphon");
        NoonBasins x = new NoonBasins();
        x.basin(90, 20, 10);
        x.basin(50, 20, 0);
        x.siphon(0, -1, 5, 4, 9, 1);
        x.siphon(0, 1, 5, 6, 9, 1);
        Due.is("bare is below crest", x.about(2), 1);
        x.siphon(0, 1, 7, 6, 9, 1);
        x.siphon(1, -1, 1, 0, 1, 1);
        // 11 are there: the first carries 7 and stops; the second runs, carries 0 and stops.
        Due.is("plays(0)", x.plays(0), 3);
        Due.is("ticks(1)", x.ticks(1), 7);
        Due.is("drops(0)", x.drops(0), 4);
        Due.is("first rests", x.of(0, 1), 1);
        Due.is("second rests", x.of(1, 1), 1);
        Due.is("third didn't start", x.of(2, 0), 0);
        // What comes to a basin can be carried on in the same TICK by a later siphon that runs.
        NoonBasins y = new NoonBasins();
        y.basin(90, 20, 10);
        y.basin(50, 20, 1);
        y.siphon(1, -1, 1, 0, 9, 0);
        y.siphon(0, 1, 1, 0, 5, 0);
        y.siphon(1, -1, 1, 0, 3, 0);
        Due.is("plays(0)", y.plays(0), 7);
        Due.is("ticks(1)", y.ticks(1), 4);
        Due.is("drops(1)", y.drops(1), 2);
        Due.is("the first stopped", y.of(0, 0), 0);
        Due.is("the third runs on", y.of(2, 0), 1);
    }

    private static void fallingOver() {
        Due.promise(14, "ticks: what falls over");
        NoonBasins x = new NoonBasins();
        x.basin(90, 5, 5);
        x.basin(50, 3, 3);
        x.siphon(0, 1, 5, 0, 2, 0);
        Due.read(x, "spring 4;sun if level=room?1:0 end;");
        x.by(0);
        // 9, 2 of them go down; 2 fall over above and 2 below; then the sun takes one of each.
        Due.is("ticks(1)", x.ticks(1), 4);
        Due.is("drops(0)", x.drops(0), 4);
        Due.is("drops(1)", x.drops(1), 2);
        Due.is("about(5)", x.about(5), 4);
        NoonBasins y = new NoonBasins();
        y.basin(1, 1, 0);
        Due.read(y, "spring 1000;sun 0-5;");
        Due.read(y, "spring 0-5;sun 1000;");
        y.by(0);
        Due.is("99 at most", y.ticks(1), 98);
        Due.is("the sun takes 0 at least", y.drops(0), 1);
        y.by(1);
        Due.is("0 at least", y.ticks(1), 0);
        Due.is("all at most", y.drops(0), 0);
        NoonBasins z = new NoonBasins();
        z.basin(1, 99, 99);
        z.basin(0, 99, 99);
        z.siphon(1, -1, 1, 0, 1, 0);
        Due.read(z, "spring 0;flow 1000;");
        Due.read(z, "spring 0;flow 0-1;");
        z.by(1);
        Due.is("flow 0 at least", z.ticks(1), 0);
        Due.is("and plays", z.of(0, 0), 1);
        z.by(0);
        Due.is("flow 99 at most", z.ticks(1), 99);
        Due.is("a spring of none", z.drops(0), 99);
    }

    private static void theVillage() {
        Due.promise(14, "ticks: a new DAY");
        NoonBasins x = new NoonBasins();
        x.basin(1, 1, 1);
        Due.is("ticks(0)", x.ticks(0), -1);
        Due.is("ticks(-1)", x.ticks(-1), -1);
        Due.is("ticks(101)", x.ticks(101), -1);
        Due.is("ticks(23)", x.ticks(23), 23);
        Due.is("about(6)", x.about(6), 23);
        Due.is("ticks(1)", x.ticks(1), 1);
        Due.is("a new DAY", x.about(6), 0);
        Due.is("about(5)", x.about(5), 24);
        Due.is("ticks(100)", x.ticks(100), 100);
        Due.is("about(6)", x.about(6), 4);
        Due.is("without basins", new NoonBasins().ticks(1), -1);
    }

    private static void theLastTick() {
        Due.promise(14, "ticks: THE TICK 9599");
        NoonBasins x = new NoonBasins();
        x.basin(1, 9, 0);
        x.siphon(0, -1, 5, 0, 9, 0);
        for (int i = 0; i < 95; i++) {
            x.ticks(100);
        }
        Due.is("about(0)", x.about(0), 9500);
        Due.is("ticks(100)", x.ticks(100), -1);
        Due.is("about(0)", x.about(0), 9500);
        Due.is("ticks(99): 19 times 5", x.ticks(99), 95);
        Due.is("about(0)", x.about(0), 9599);
        Due.is("ticks(1)", x.ticks(1), -1);
        Due.is("tried beyond", x.plays(0), 1);
        Due.is("tried beyond", x.plays(395), 1);
        Due.is("tried beyond", x.round(1), 120);
        Due.is("tried beyond", x.shortOf(9), 0);
    }

    private static void playing() {
        Due.promise(15, "plays");
        NoonBasins x = new NoonBasins();
        Due.is("without basins", x.plays(0), -1);
        x.basin(9, 9, 0);
        Due.is("without siphons", x.plays(400), 0);
        x.siphon(0, -1, 5, 0, 9, 0);
        x.siphon(0, -1, 3, 2, 1, 9);
        Due.is("plays(-1)", x.plays(-1), -1);
        Due.is("plays(401)", x.plays(401), -1);
        Due.is("plays(1)", x.plays(1), 0);
        Due.is("plays(2)", x.plays(2), 2);
        Due.is("plays(0) behind plays(2)", x.plays(0), 0);
        Due.is("plays(3)", x.plays(3), 0);
        Due.is("plays(4)", x.plays(4), 0);
        Due.is("plays(5)", x.plays(5), 1);
        Due.is("changes nothing", x.about(0), 0);
        Due.is("changes nothing", x.drops(0), 0);
        x.cock(0, false);
        Due.is("plays(5), shut", x.plays(5), 0);
        Due.is("plays(400)", x.plays(400), 2);
    }

    private static void rounds() {
        Due.promise(16, "round");
        NoonBasins x = new NoonBasins();
        Due.is("without basins", x.round(0), -1);
        x.basin(9, 9, 0);
        Due.is("lead: until it is full", x.round(0), 9);
        Due.is("length: the hour comes again", x.round(1), 24);
        Due.is("round(2)", x.round(2), -1);
        Due.is("round(-1)", x.round(-1), -1);
        x.siphon(0, -1, 7, 0, 9, 0);
        Due.is("lead", x.round(0), 0);
        Due.is("length: of 7 and 24", x.round(1), 168);
        x.ticks(1);
        Due.is("lead", x.round(0), 0);
        NoonBasins y = new NoonBasins();
        y.basin(9, 99, 0);
        y.siphon(0, -1, 17, 0, 9, 0);
        y.siphon(0, -1, 99, 0, 9, 0);
        // 17, then 9 of them go, 1 comes, 9 go: 0 again behind 18 TICKS, in the same hour behind 72.
        Due.is("lead", y.round(0), 0);
        Due.is("length", y.round(1), 72);
        NoonBasins z = new NoonBasins();
        z.basin(9, 99, 0);
        z.siphon(0, -1, 19, 0, 9, 0);
        Due.read(z, "flow 99;");
        z.by(0);
        // All comes round in 19 * 24 TICKS, which is beyond 400.
        Due.is("none", z.round(0), -1);
        Due.is("none", z.round(1), -1);
        // A drop a DAY, in its 15th hour: full behind 376 TICKS, and the same again just behind 400.
        NoonBasins v = new NoonBasins();
        v.basin(9, 16, 0);
        Due.read(v, "spring if hour=15?1:0 end;");
        v.by(0);
        Due.is("lead of 376", v.round(0), 376);
        Due.is("length of 24", v.round(1), 24);
        v.basin(9, 99, 0);
        Due.is("as before", v.round(0), 376);
        v.back();
        v.basin(9, 17, 0);
        Due.read(v, "spring if hour=15?1:0 end;");
        v.by(0);
        Due.is("beyond 400", v.round(0), -1);
        each();
        NoonBasins w = new NoonBasins();
        w.basin(9, 99, 0);
        w.siphon(0, -1, 1, 0, 1, 9);
        // It rests 9 TICKS each time, and in them 9 drops come: it runs for good from then on.
        Due.is("the rest counts", w.round(1), 24);
    }

    /** Each of ten basins tells a state apart: the sun takes one drop of it a DAY. */
    private static void each() {
        for (int b = 0; b < 10; b++) {
            NoonBasins x = new NoonBasins();
            for (int i = 0; i < 10; i++) {
                x.basin(9, 9, i == b ? 3 : 0);
            }
            Due.read(x, "spring 0;sun if hour=0?1:0 end;");
            x.by(0);
            Due.is("lead by basin " + b, x.round(0), 49);
            Due.is("length by basin " + b, x.round(1), 24);
        }
        // Each of fourteen siphons does so by its rest: all play in TICK 0, and one rests 9 TICKS then.
        for (int s = 0; s < 14; s++) {
            NoonBasins x = new NoonBasins();
            x.basin(9, 99, 1);
            for (int i = 0; i < 14; i++) {
                x.siphon(0, -1, 1, 0, 1, i == s ? 9 : 0);
            }
            Due.read(x, "spring 0;");
            x.by(0);
            Due.is("plays", x.plays(0), 16383);
            Due.is("lead by siphon " + s, x.round(0), 10);
        }
    }

    /** As much as there can be of all: no place of any row is beyond its end. */
    private static void fullPalace() {
        Due.promise(14, "a full palace");
        NoonBasins x = new NoonBasins();
        for (int i = 0; i < 10; i++) {
            x.basin(99 - i, 99, 50);
        }
        for (int i = 0; i < 14; i++) {
            x.siphon(i % 10, i < 9 ? i + 1 : -1, 40 + i, 3, 1 + i % 9, i % 10);
        }
        for (int i = 0; i < 4; i++) {
            Due.read(x, "spring " + (10 + i) + ";flow bore;sun level/50;due 30;");
        }
        x.by(3);
        for (int i = 0; i < 8; i++) {
            x.want(i % 4, 23, 9, 40);
        }
        for (int i = 0; i < 20; i++) {
            x.heard(47, 13, false);
        }
        for (int i = 0; i < 12; i++) {
            x.line(40, 13, true);
        }
        Due.is("ticks(1)", x.ticks(1) >= 0, true);
        Due.is("plays(400)", x.plays(400) >= 0, true);
        Due.is("round(0)", x.round(0) >= -1, true);
        Due.is("missed()", x.missed() >= 0, true);
        Due.is("turnsOf(0): plays and doesn't", x.turnsOf(0), -1);
        Due.is("dig(15, 0)", x.dig(15, 0), -1);
        Due.is("suspects()", x.suspects() >= 0, true);
        Due.is("look(0)", x.look(0) >= -1, true);
        Due.is("frost(400)", x.frost(400) > 0, true);
        Due.is("dry(1023)", x.dry(1023), -1);
        Due.is("written(-1)", x.written(-1) >= 0, true);
        Due.is("shortOf(9)", x.shortOf(9) >= 0, true);
        Due.is("image()", x.image(), 1);
        Due.is("back()", x.back(), 1);
        Due.is("about(39)", x.about(39), 99);
        Due.is("of(13, 3)", x.of(13, 3), 53);
    }

    private static void frosts() {
        Due.promise(24, "frost");
        NoonBasins x = new NoonBasins();
        Due.is("without basins", x.frost(0), -1);
        x.basin(9, 9, 0);
        x.basin(5, 9, 2);
        Due.is("frost(0)", x.frost(0), 2);
        Due.is("frost(1)", x.frost(1), 3);
        Due.is("frost(400)", x.frost(400), 3);
        Due.is("frost(401)", x.frost(401), -1);
        Due.is("frost(-1)", x.frost(-1), -1);
        Due.promise(25, "dry");
        Due.is("dry(0)", x.dry(0), -1);
        Due.is("dry(-1)", x.dry(-1), -1);
        Due.is("dry(4)", x.dry(4), -1);
        Due.is("dry(5)", x.dry(5), -1);
        Due.is("dry(1)", x.dry(1), 0);
        Due.is("dry(2)", x.dry(2), -1);
        Due.read(x, "spring if day<16?0:1 end;sun if hour=3 and day=16?1:0 end;");
        x.by(0);
        // The second drop is gone only with DAY 17: one goes at TICK 387.
        Due.is("dry(2)", x.dry(2), -1);
        x.siphon(1, -1, 1, 0, 1, 0);
        Due.is("dry(2)", x.dry(2), 2);
        Due.is("dry(3)", x.dry(3), 2);
        NoonBasins y = new NoonBasins();
        y.basin(9, 9, 1);
        Due.read(y, "spring 0;sun if hour=15 and day=16?1:0 end;");
        y.by(0);
        Due.is("dry at 400", y.dry(1), 400);
        Due.is("frost(399)", y.frost(399), 1);
        Due.is("frost(400)", y.frost(400), 0);
        Due.read(y, "spring 0;sun if hour=16 and day=16?1:0 end;");
        y.by(1);
        Due.is("dry behind 400", y.dry(1), -1);
        Due.is("without basins", new NoonBasins().dry(1), -1);
    }

    private static void shortness() {
        Due.promise(28, "shortOf");
        NoonBasins x = new NoonBasins();
        Due.is("without basins", x.shortOf(0), -1);
        x.basin(1, 1, 1);
        Due.is("without due", x.shortOf(0), 0);
        Due.read(x, "due 20+day*3;");
        Due.read(x, "due 9999*9;");
        Due.read(x, "due 0-9;");
        x.by(0);
        Due.is("shortOf(-1)", x.shortOf(-1), -1);
        Due.is("shortOf(10)", x.shortOf(10), -1);
        Due.is("shortOf(0)", x.shortOf(0), 0);
        Due.is("shortOf(1)", x.shortOf(1), 0);
        Due.is("shortOf(2)", x.shortOf(2), 2);
        Due.is("shortOf(9)", x.shortOf(9), 23);
        x.ticks(30);
        Due.is("from this DAY on", x.shortOf(0), 0);
        Due.is("from this DAY on", x.shortOf(1), 2);
        x.by(1);
        Due.is("9999 at most, this DAY's own drops", x.shortOf(0), 9999 - 24);
        x.by(2);
        Due.is("0 at least", x.shortOf(0), 0);
        x.by(1);
        x.ticks(17);
        Due.is("about(0)", x.about(0), 47);
        Due.is("in its last hour", x.shortOf(0), 9999 - 24);
        x.ticks(1);
        Due.is("in its first hour", x.shortOf(0), 9999 - 24);
    }

    private static void images() {
        NoonBasins x = new NoonBasins();
        x.basin(9, 9, 9);
        x.siphon(0, -1, 8, 1, 2, 3);
        Due.read(x, "spring 1;");
        x.by(0);
        x.clog(0, 1);
        x.want(0, 0, 0, 0);
        x.heard(0, 0, true);
        x.line(0, 0, true);
        x.ticks(2);
        Due.promise(29, "image");
        Due.is("image()", x.image(), 2);
        int village = x.about(5);
        x.ticks(30);
        x.cock(0, false);
        x.clog(0, 9);
        x.basin(5, 5, 5);
        x.siphon(1, -1, 1, 0, 1, 1);
        x.want(1, 0, 0, 0);
        x.heard(1, 0, true);
        x.line(1, 0, true);
        Due.read(x, "due 5;");
        x.by(1);
        Due.read(x, "spring x;");
        x.feed(0, 0, 0, 0, 0);
        Due.promise(30, "back");
        Due.is("back()", x.back(), 2);
        int[] due = {2, 1, 1, 1, 0, village, village, 1, 1, 1, 20};
        for (int i = 0; i <= 10; i++) {
            Due.is("about(" + i + ")", x.about(i), due[i]);
        }
        Due.is("the fault stays", x.fault(0), 1);
        Due.is("its place stays", x.fault(1), 7);
        Due.is("the cock", x.of(0, 2), 1);
        Due.is("the clog", x.of(0, 5), 1);
        Due.is("runs", x.of(0, 0), 1);
        Due.is("drops", x.drops(0), 9);
        Due.is("a text in the place of what went", Due.read(x, "due 7;"), 1);
        x.by(1);
        Due.is("it rules", x.shortOf(1), 0);
        Due.is("the image stays: back()", x.back(), 2);
        Due.is("again", x.about(3), 1);
        Due.is("laid in between", x.laid(0), -1);
        Due.is("no basins", x.plays(0), -1);
        x.back();
        Due.is("plays again", x.plays(0), 1);
    }

    private static void abouts() {
        Due.promise(31, "about");
        NoonBasins x = new NoonBasins();
        x.basin(77, 66, 55);
        x.basin(7, 6, 5);
        Due.is("about(20)", x.about(20), 77);
        Due.is("about(21)", x.about(21), 7);
        Due.is("about(22)", x.about(22), -2);
        Due.is("about(30)", x.about(30), 66);
        Due.is("about(31)", x.about(31), 6);
        Due.is("about(32)", x.about(32), -2);
        Due.is("about(40)", x.about(40), -2);
        Due.is("about(11)", x.about(11), -2);
        Due.is("about(19)", x.about(19), -2);
        Due.is("about(-1)", x.about(-1), -2);
    }
}
