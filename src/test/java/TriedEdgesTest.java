/** Promises 15, 16, 24, 25 and 28: what is TRIED, on either side of each bound. */
public final class TriedEdgesTest {
    private static final int NONE = NoonBasins.NONE;
    private static final Twins RICH = new Twins(Twins::rich);
    private static final Twins FULL = new Twins(Twins::full);
    private static final Twins DESERT = new Twins(Twins::desert);

    public static void main(String[] args) {
        playing();
        playingOnce();
        playingBits();
        rounds();
        roundStates();
        roundOfEachBasin();
        roundOfEachSiphon();
        roundsAtTheEnd();
        frosts();
        frostBits();
        dryOthers();
        drySets();
        dryTicks();
        shortOthers();
        shortDays();
        dues();
        beyondTheEnd();
        changesNothing();
        askedAhead();
        Due.close();
    }

    /** A palace of one SIPHON that PLAYS in this TICK alone. */
    static NoonBasins playsOnceIn(int tick) {
        NoonBasins x = Due.ruled("spring if day=" + tick / 24 + " and hour=" + tick % 24 + "?9:0 end;");
        x.basin(9, 9, 0);
        x.siphon(0, NONE, 9, 0, 9, 0);
        return x;
    }

    private static void playing() {
        Due.promise(15, "plays: 0 .. 400");
        for (int k : new int[] {Integer.MIN_VALUE, -1, 401, Integer.MAX_VALUE}) {
            RICH.refuse("plays(" + k + ")", NONE, x -> x.plays(k));
            FULL.refuse("plays(" + k + ")", NONE, x -> x.plays(k));
        }
        Due.promise(15, "plays: without BASINS");
        DESERT.refuse("plays(0)", NONE, x -> x.plays(0));
        DESERT.refuse("plays(401)", NONE, x -> x.plays(401));
        Due.is("of a new object", new NoonBasins().plays(0), NONE);
        NoonBasins x = new NoonBasins();
        x.basin(9, 9, 9);
        Due.is("without SIPHONS", x.plays(0), 0);
        Due.is("without SIPHONS", x.plays(400), 0);
    }

    private static void playingOnce() {
        Due.promise(15, "plays: in TICK k, the k-th from 0");
        for (int tick : new int[] {0, 1, 23, 24, 25, 399, 400}) {
            NoonBasins x = playsOnceIn(tick);
            Due.is("ahead of " + tick, x.plays(Math.max(0, tick - 1)), tick == 0 ? 1 : 0);
            Due.is("in " + tick, x.plays(tick), 1);
            Due.is("behind " + tick, x.plays(tick + 1), tick < 400 ? 0 : NONE);
        }
        NoonBasins x = playsOnceIn(401);
        Due.is("in 400", x.plays(400), 0);
        x.ticks(1);
        Due.is("in 400, a TICK later", x.plays(400), 1);
        x.ticks(1);
        Due.is("in 399, two TICKS later", x.plays(399), 1);
        Due.is("in 400, two TICKS later", x.plays(400), 0);
    }

    private static void playingBits() {
        Due.promise(15, "plays: bits");
        NoonBasins x = Due.ruled("spring 0;");
        x.basin(9, 99, 14);
        int all = 0;
        for (int s = 0; s < 14; s++) {
            x.siphon(0, NONE, s + 1, 0, 1, 0);
            all |= 1 << s;
            Due.is("with SIPHON " + s, x.plays(0), all);
        }
        for (int s = 0; s < 14; s++) {
            x.cock(s, false);
            Due.is("with COCK " + s + " shut", x.plays(0), all & ~(1 << s));
            x.cock(s, true);
        }
    }

    private static void rounds() {
        Due.promise(16, "round: NONE for others, and without BASINS");
        for (int what : new int[] {Integer.MIN_VALUE, -1, 2, Integer.MAX_VALUE}) {
            RICH.refuse("round(" + what + ")", NONE, x -> x.round(what));
            FULL.refuse("round(" + what + ")", NONE, x -> x.round(what));
        }
        DESERT.refuse("round(0)", NONE, x -> x.round(0));
        DESERT.refuse("round(1)", NONE, x -> x.round(1));
        Due.is("of a new object", new NoonBasins().round(0), NONE);
    }

    private static void roundIs(String what, NoonBasins x, int lead, int length) {
        Due.is("LEAD: " + what, x.round(0), lead);
        Due.is("LENGTH: " + what, x.round(1), length);
        Due.is("LEAD again: " + what, x.round(0), lead);
    }

    private static void roundStates() {
        Due.promise(16, "round: states are DROPS, which RUN, how long each RESTS, HOUR");
        NoonBasins still = Due.ruled("spring 0;");
        still.basin(9, 9, 5);
        roundIs("nothing moves but the HOUR", still, 0, 24);
        still.ticks(7);
        roundIs("from another HOUR", still, 0, 24);
        NoonBasins drops = Due.ruled("spring if day=0 and hour=0?1:0 end;");
        drops.basin(9, 9, 5);
        roundIs("DROPS tell the first state apart", drops, 1, 24);
        NoonBasins runs = Due.ruled("spring 0;flow 0;");
        runs.basin(9, 9, 5);
        runs.siphon(0, NONE, 5, 0, 1, 0);
        roundIs("that it RUNS tells the first state apart", runs, 1, 24);
        for (int rest = 0; rest <= 9; rest++) {
            NoonBasins rests = Due.ruled("spring if hour=0 and day=0?1:0 end;");
            rests.basin(9, 9, 0);
            rests.siphon(0, NONE, 1, 0, 1, rest);
            roundIs("the state ahead of it all comes again", rests, 0, 24);
            // It stopped in TICK 0: from then on just its RESTING tells states of one HOUR apart.
            rests.ticks(1);
            roundIs("REST " + rest, rests, rest, 24);
        }
        NoonBasins village = new NoonBasins();
        village.basin(9, 1, 1);
        roundIs("THE VILLAGE is none of it", village, 0, 24);
        NoonBasins cocks = Due.ruled("spring 0;");
        cocks.basin(9, 9, 5);
        cocks.siphon(0, NONE, 5, 0, 1, 0);
        cocks.cock(0, false);
        cocks.clog(0, 9);
        roundIs("a shut one stays so", cocks, 0, 24);
    }

    /** In HOUR 5 of the first DAY one BASIN has a drop more and another one 64 less: two changes count as two. */
    private static void roundOfEachBasin() {
        Due.promise(16, "round: DROPS of each BASIN");
        for (int b = 0; b < 10; b++) {
            for (int other = 0; other < 10; other++) {
                if (other == b || other == 0) {
                    continue;
                }
                NoonBasins x = Due.ruled("spring if day=0 and hour=5?1:0 end;sun if height=7 and hour=5 and day=0?64:0 end;");
                for (int i = 0; i < 10; i++) {
                    x.basin(i == other ? 7 : i == 0 ? 50 : 6, 99, i == other ? 64 : 0);
                }
                if (b > 0) {
                    x.siphon(0, b, 1, 0, 1, 0);
                }
                roundIs("one more in " + b + ", 64 less in " + other, x, 6, 24);
            }
        }
    }

    /** One RESTS in the first DAY's HOUR 1, another one in the next DAY's. */
    private static void roundOfEachSiphon() {
        Due.promise(16, "round: how long each SIPHON RESTS, which RUN");
        for (int s = 0; s < 13; s++) {
            NoonBasins x = Due.ruled("spring if hour=0 and day<2?1:0 end;");
            x.basin(9, 9, 0);
            for (int i = 0; i < 14; i++) {
                x.siphon(0, NONE, 1, 0, 1, i == s ? 1 : 8);
                x.cock(i, i == s + 1);
            }
            x.ticks(1);
            Due.is("it RESTS", x.of(s + 1, 1), 8);
            x.cock(s, true);
            x.cock(s + 1, false);
            roundIs("SIPHON " + s + " 1 TICK, the next one 8", x, 8, 24);
        }
        for (int s = 0; s < 14; s++) {
            NoonBasins x = Due.ruled("spring 0;flow 0;");
            x.basin(9, 9, 5);
            for (int i = 0; i < 14; i++) {
                x.siphon(0, NONE, i == s ? 5 : 9, 0, 1, 0);
            }
            roundIs("SIPHON " + s + " RUNS", x, 1, 24);
        }
    }

    private static void roundsAtTheEnd() {
        Due.promise(16, "round: behind 400 TICKS at most");
        NoonBasins x = Due.ruled("spring if day=15 and hour=15?1:0 end;");
        x.basin(9, 9, 0);
        roundIs("a state comes again, whatever comes behind it", x, 0, 24);
        NoonBasins y = Due.ruled("spring if hour=15?1:0 end;");
        y.basin(9, 16, 0);
        roundIs("full behind TICK 375", y, 376, 24);
        NoonBasins z = Due.ruled("spring if hour=16?1:0 end;");
        z.basin(9, 16, 0);
        roundIs("full behind TICK 376", z, NONE, NONE);
        z.ticks(1);
        roundIs("a TICK later", z, 376, 24);
        NoonBasins w = Due.ruled("spring if hour=14?1:0 end;");
        w.basin(9, 16, 0);
        roundIs("full behind TICK 374", w, 375, 24);
        // Crests of 16 and 17 drops, one a DAY: all comes round in 384 and in 408 TICKS.
        NoonBasins v = Due.ruled("spring if hour=0?1:0 end;flow 99;");
        v.basin(9, 16, 0);
        v.siphon(0, NONE, 16, 0, 9, 0);
        roundIs("in 16 DAYS", v, 0, 384);
        NoonBasins u = Due.ruled("spring if hour=0?1:0 end;flow 99;");
        u.basin(9, 17, 0);
        u.siphon(0, NONE, 17, 0, 9, 0);
        roundIs("in 17 DAYS", u, NONE, NONE);
    }

    private static void frosts() {
        Due.promise(24, "frost: 0 .. 400");
        for (int n : new int[] {Integer.MIN_VALUE, -1, 401, Integer.MAX_VALUE}) {
            RICH.refuse("frost(" + n + ")", NONE, x -> x.frost(n));
            FULL.refuse("frost(" + n + ")", NONE, x -> x.frost(n));
        }
        DESERT.refuse("frost(0)", NONE, x -> x.frost(0));
        Due.is("of a new object", new NoonBasins().frost(0), NONE);
        for (int tick : new int[] {0, 1, 23, 24, 398, 399}) {
            NoonBasins x = Due.ruled("spring if day=" + tick / 24 + " and hour=" + tick % 24 + "?9:0 end;");
            x.basin(9, 9, 0);
            Due.is("behind " + tick + " TICKS", x.frost(tick), 0);
            Due.is("behind one more", x.frost(tick + 1), 1);
            Due.is("frost(0) behind that", x.frost(0), 0);
        }
        NoonBasins y = Due.ruled("spring if day=16 and hour=16?9:0 end;");
        y.basin(9, 9, 0);
        Due.is("TICK 400 isn't one of 400", y.frost(400), 0);
    }

    private static void frostBits() {
        Due.promise(24, "frost: BASINS that have DROPS");
        for (int b = 0; b < 10; b++) {
            NoonBasins x = Due.ruled("spring 0;sun if hour=2?99:0 end;");
            for (int i = 0; i < 10; i++) {
                x.basin(9, 9, i == b ? 1 : 0);
            }
            Due.is("BASIN " + b + " as it is", x.frost(0), 1 << b);
            Due.is("BASIN " + b + " behind 2 TICKS", x.frost(2), 1 << b);
            Due.is("BASIN " + b + " behind 3 TICKS", x.frost(3), 0);
        }
        NoonBasins y = Due.ruled("spring 0;");
        for (int i = 0; i < 10; i++) {
            y.basin(9, 99, 99);
        }
        Due.is("all", y.frost(0), 1023);
        Due.is("all", y.frost(400), 1023);
        y.laid(0);
        y.basin(9, 9, 0);
        Due.is("what is there no more has none", y.frost(0), 0);
    }

    private static void dryOthers() {
        Due.promise(25, "dry: a set of BASINS, one at least");
        RICH.refuse("dry(0)", NONE, x -> x.dry(0));
        RICH.refuse("dry(8) of 3", NONE, x -> x.dry(8));
        RICH.refuse("dry(9) of 3", NONE, x -> x.dry(9));
        RICH.refuse("dry(15) of 3", NONE, x -> x.dry(15));
        RICH.refuse("dry(-1)", NONE, x -> x.dry(-1));
        RICH.refuse("dry(MIN)", NONE, x -> x.dry(Integer.MIN_VALUE));
        RICH.refuse("dry(MAX)", NONE, x -> x.dry(Integer.MAX_VALUE));
        FULL.refuse("dry(0)", NONE, x -> x.dry(0));
        FULL.refuse("dry(1024)", NONE, x -> x.dry(1024));
        FULL.refuse("dry(2047)", NONE, x -> x.dry(2047));
        DESERT.refuse("dry(0)", NONE, x -> x.dry(0));
        DESERT.refuse("dry(1)", NONE, x -> x.dry(1));
        Due.is("of a new object", new NoonBasins().dry(1), NONE);
    }

    private static void drySets() {
        Due.promise(25, "dry: told BASINS have none, all of them at once");
        NoonBasins x = Due.ruled("spring 0;sun if hour=level?level:0 end;");
        for (int b = 0; b < 10; b++) {
            x.basin(9, 9, b);
        }
        // A BASIN of b DROPS is bare behind TICK b.
        Due.is("bare as it is", x.dry(1), 0);
        for (int b = 1; b < 10; b++) {
            Due.is("BASIN " + b, x.dry(1 << b), b + 1);
            Due.is("BASIN " + b + " and all below", x.dry((2 << b) - 1), b + 1);
        }
        Due.is("dry(1023)", x.dry(1023), 10);
        Due.is("dry(1024)", x.dry(1024), NONE);
        // Two that are bare in turns, and never both.
        NoonBasins y = Due.ruled("spring if hour/2*2=hour?1:0 end;flow 9;");
        y.basin(50, 9, 0);
        y.basin(40, 9, 1);
        y.siphon(0, 1, 1, 0, 1, 0);
        Due.is("the first", y.dry(1), 0);
        Due.is("the second, with nothing that takes from it", y.dry(2), NONE);
        Due.is("both", y.dry(3), NONE);
    }

    private static void dryTicks() {
        Due.promise(25, "dry: 0 .. 400");
        for (int tick : new int[] {0, 1, 23, 24, 398, 399}) {
            NoonBasins x = Due.ruled("spring 0;sun if day=" + tick / 24 + " and hour=" + tick % 24 + "?1:0 end;");
            x.basin(9, 9, 1);
            Due.is("by the sun of TICK " + tick, x.dry(1), tick + 1);
        }
        NoonBasins y = Due.ruled("spring 0;sun if day=16 and hour=16?1:0 end;");
        y.basin(9, 9, 1);
        Due.is("by the sun of TICK 400", y.dry(1), NONE);
        y.ticks(1);
        Due.is("a TICK later", y.dry(1), 400);
    }

    private static void shortOthers() {
        Due.promise(28, "shortOf: 0 .. 9");
        for (int day : new int[] {Integer.MIN_VALUE, -1, 10, Integer.MAX_VALUE}) {
            RICH.refuse("shortOf(" + day + ")", NONE, x -> x.shortOf(day));
            FULL.refuse("shortOf(" + day + ")", NONE, x -> x.shortOf(day));
        }
        DESERT.refuse("shortOf(0)", NONE, x -> x.shortOf(0));
        Due.is("of a new object", new NoonBasins().shortOf(0), NONE);
    }

    private static void shortDays() {
        Due.promise(28, "shortOf: from this DAY on, as it ends");
        NoonBasins x = Due.ruled("due 100+day;");
        x.basin(9, 1, 1);
        for (int tick : new int[] {0, 1, 23, 24, 25, 47, 48, 50}) {
            x.ticks(Math.max(1, tick - x.about(0)));
            int now = x.about(0);
            for (int day = 0; day <= 9; day++) {
                Due.is("DAY " + day + " from TICK " + now, x.shortOf(day), 100 + now / 24 + day - 24);
            }
        }
        // What THE VILLAGE had in DAYS ahead counts nothing, what it has of this one already does.
        NoonBasins y = Due.ruled("spring if hour<12?5:0 end;due 100;");
        y.basin(9, 1, 1);
        Due.is("as a DAY begins", y.shortOf(0), 40);
        y.ticks(11);
        Due.is("in HOUR 11", y.shortOf(0), 40);
        y.ticks(1);
        Due.is("in HOUR 12", y.shortOf(0), 40);
        y.ticks(11);
        Due.is("in HOUR 23", y.shortOf(0), 40);
        Due.is("the next DAY from HOUR 23", y.shortOf(1), 40);
        y.ticks(1);
        Due.is("as the next one begins", y.shortOf(0), 40);
        Due.is("in it", y.about(6), 0);
        // A DAY's last TICK and the next one's first count each in their own.
        NoonBasins z = Due.ruled("spring if day=0 and hour=23?3:if day=1 and hour=0?7:0 end end;due 20;");
        z.basin(9, 1, 1);
        Due.is("3 of DAY 0", z.shortOf(0), 17);
        Due.is("7 of DAY 1", z.shortOf(1), 13);
        Due.is("none of DAY 2", z.shortOf(2), 20);
    }

    private static void dues() {
        Due.promise(28, "shortOf: due 0 at least, 9999 at most; without: 0");
        int[] due = {-9999, -1, 0, 1, 9998, 9999};
        for (int d : due) {
            NoonBasins x = Due.ruled("spring 0;due " + d + ";");
            x.basin(9, 9, 0);
            Due.is("due " + d, x.shortOf(0), Math.max(0, d));
        }
        NoonBasins y = Due.ruled("spring 0;due 9999+1;");
        y.basin(9, 9, 0);
        Due.is("due 10000", y.shortOf(0), 9999);
        Due.read(y, "spring 0;due 9999*9999;");
        y.by(1);
        Due.is("due 1000000", y.shortOf(0), 9999);
        Due.read(y, "spring 0;");
        y.by(2);
        Due.is("a TEXT without", y.shortOf(0), 0);
        y.by(NONE);
        Due.is("without a TEXT", y.shortOf(0), 0);
        Due.promise(28, "shortOf: 0 at least");
        for (int d = 23; d <= 26; d++) {
            NoonBasins x = Due.ruled("due " + d + ";");
            x.basin(9, 1, 1);
            Due.is("due " + d + " less 24", x.shortOf(0), Math.max(0, d - 24));
        }
        Due.promise(28, "shortOf: due of its DAY");
        NoonBasins x = Due.ruled("spring 0;due day*1000;");
        x.basin(9, 9, 0);
        for (int day = 0; day <= 9; day++) {
            Due.is("DAY " + day, x.shortOf(day), day * 1000);
        }
        x.ticks(30);
        Due.is("DAY 9 from DAY 1 on: 9999 at most", x.shortOf(9), 9999);
        Due.is("DAY 8 from DAY 1 on", x.shortOf(8), 9000);
    }

    private static void atTheEnd(NoonBasins x) {
        while (x.about(0) < 9599) {
            x.ticks(Math.min(100, 9599 - x.about(0)));
        }
    }

    private static void beyondTheEnd() {
        Due.promise(15, "TRIED: THE TICK may go beyond 9599 in it");
        NoonBasins x = Due.ruled("spring if day=400 and hour=0?9:0 end;due day;");
        x.basin(9, 9, 0);
        x.siphon(0, NONE, 9, 0, 9, 0);
        atTheEnd(x);
        Due.is("TICK 9599", x.plays(0), 0);
        Due.is("TICK 9600: DAY 400, HOUR 0", x.plays(1), 1);
        Due.is("TICK 9999", x.plays(400), 0);
        Due.is("frost(400)", x.frost(400), 0);
        Due.is("dry(1)", x.dry(1), 0);
        Due.is("this DAY is 399", x.shortOf(0), 399);
        Due.is("DAY 400, 9 having come", x.shortOf(1), 391);
        Due.is("DAY 408", x.shortOf(9), 408);
        x.want(0, 1, 0, 0);
        Due.is("missed()", x.missed(), NONE);
        x.want(1, 1, 0, 0);
        Due.is("missed()", x.missed(), 1);
        x.heard(1, 0, false);
        Due.is("suspects()", x.suspects(), 1);
        x.line(0, 0, true);
        Due.is("written(-1)", x.written(-1), 1);
        Due.is("written(0)", x.written(0), 1);
        Due.is("THE TICK", x.about(0), 9599);
        Due.is("round(1)", x.round(1), 24);
        Due.is("round(0)", x.round(0), 0);
    }

    private static void changesNothing() {
        Due.promise(15, "what is TRIED changes nothing");
        RICH.refuse("all that is TRIED", 0, x -> everyTrial(x));
        FULL.refuse("all that is TRIED", 0, x -> everyTrial(x));
    }

    private static int everyTrial(NoonBasins x) {
        x.plays(400);
        x.plays(0);
        x.round(0);
        x.missed();
        x.turnsOf(0);
        x.dig(1, 0);
        x.dig(2, 3);
        x.suspects();
        x.look(2);
        x.frost(400);
        x.dry(1);
        x.written(-1);
        x.shortOf(9);
        return 0;
    }

    /** What was asked ahead of a change is no part of what is answered behind it. */
    private static void askedAhead() {
        Due.promise(15, "asked ahead of a change");
        afterAsking("basin", x -> x.basin(40, 5, 5));
        afterAsking("siphon", x -> x.siphon(0, 2, 3, 0, 2, 1));
        afterAsking("clog, by no law", x -> x.clog(0, 2) ? 1 : 0);
        afterAsking("cock", x -> x.cock(0, false) ? 1 : 0);
        afterAsking("cock", x -> x.cock(2, true) ? 1 : 0);
        afterAsking("text", x -> Due.read(x, "spring 9;due 500;"));
        afterAsking("text with a FAULT", x -> Due.read(x, "spring 9;due 500;;"));
        afterAsking("by(1)", x -> x.by(1) ? 1 : 0);
        afterAsking("by(NONE)", x -> x.by(NONE) ? 1 : 0);
        afterAsking("laid", x -> x.laid(0));
        afterAsking("laid and built", x -> x.laid(0) + x.basin(9, 9, 9) + x.siphon(0, NONE, 9, 0, 1, 0));
        afterAsking("ticks", x -> x.ticks(3));
        afterAsking("want", x -> x.want(1, 0, 0, 0));
        afterAsking("heard", x -> x.heard(0, 0, false));
        afterAsking("line", x -> x.line(0, 0, true));
        afterAsking("image", NoonBasins::image);
        afterAsking("back", NoonBasins::back);
        afterAsking("dig with another set", x -> x.dig(3, 0));
    }

    /** TEXT 0 has no flow, so that CLOG counts. */
    private static NoonBasins richByTheFirst() {
        NoonBasins x = new NoonBasins();
        Twins.rich(x);
        x.by(0);
        return x;
    }

    private static void afterAsking(String change, Twins.Call call) {
        NoonBasins x = richByTheFirst();
        everyTrial(x);
        NoonBasins y = richByTheFirst();
        Due.is(change, call.on(x), call.on(y));
        Sight.same("asked ahead of " + change, Sight.of(x), Sight.of(y));
    }
}
