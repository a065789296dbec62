/** Promise 14 and A TICK of part I, step by step and on either side of each bound. */
public final class TickEdgesTest {
    private static final int NONE = NoonBasins.NONE;
    private static final Twins RICH = new Twins(Twins::rich);
    private static final Twins FULL = new Twins(Twins::full);
    private static final Twins DESERT = new Twins(Twins::desert);

    public static void main(String[] args) {
        manyTicks();
        theTicksEnd();
        hoursAndDays();
        theVillageByDays();
        springs();
        starts();
        stops();
        cocksInATick();
        allByHowBasinsAreNow();
        flows();
        flowsByLaw();
        atMostWhatIsAboveBare();
        turnByTurn();
        namesOfFlow();
        fallsOver();
        suns();
        namesOfSun();
        rests();
        addsUp();
        Due.close();
    }

    private static void manyTicks() {
        Due.promise(14, "ticks: 1 .. 100");
        RICH.refuse("ticks(MIN)", NONE, x -> x.ticks(Integer.MIN_VALUE));
        RICH.refuse("ticks(-1)", NONE, x -> x.ticks(-1));
        RICH.refuse("ticks(0)", NONE, x -> x.ticks(0));
        RICH.refuse("ticks(101)", NONE, x -> x.ticks(101));
        RICH.refuse("ticks(MAX)", NONE, x -> x.ticks(Integer.MAX_VALUE));
        FULL.refuse("ticks(0)", NONE, x -> x.ticks(0));
        FULL.refuse("ticks(101)", NONE, x -> x.ticks(101));
        NoonBasins x = new NoonBasins();
        x.basin(9, 1, 1);
        Due.is("ticks(1)", x.ticks(1), 1);
        Due.is("THE TICK", x.about(0), 1);
        Due.is("ticks(100)", x.ticks(100), 100);
        Due.is("THE TICK", x.about(0), 101);
        Due.promise(14, "ticks: without BASINS");
        DESERT.refuse("ticks(1)", NONE, y -> y.ticks(1));
        Due.is("of a new object", new NoonBasins().ticks(1), NONE);
        NoonBasins z = new NoonBasins();
        z.basin(9, 9, 0);
        Due.is("without SIPHONS", z.ticks(1), 0);
    }

    private static void toTheEnd(NoonBasins x, int tick) {
        while (x.about(0) < tick) {
            x.ticks(Math.min(100, tick - x.about(0)));
        }
    }

    private static void theTicksEnd() {
        Due.promise(14, "ticks: beyond THE TICK 9599");
        Twins nearly = new Twins(x -> {
            x.basin(9, 3, 0);
            x.siphon(0, NONE, 3, 0, 2, 1);
            toTheEnd(x, 9499);
            x.image();
        });
        nearly.take("ticks(100) from 9499", 100, x -> x.ticks(100));
        Twins near = new Twins(x -> {
            x.basin(9, 3, 0);
            x.siphon(0, NONE, 3, 0, 2, 1);
            toTheEnd(x, 9589);
            x.image();
        });
        near.take("ticks(10) from 9589", 10, x -> x.ticks(10));
        near.refuse("ticks(11) from 9589", NONE, x -> x.ticks(11));
        near.refuse("ticks(100) from 9589", NONE, x -> x.ticks(100));
        Twins last = new Twins(x -> {
            x.basin(9, 3, 0);
            x.siphon(0, NONE, 3, 0, 2, 1);
            toTheEnd(x, 9599);
            x.image();
        });
        last.refuse("ticks(1) from 9599", NONE, x -> x.ticks(1));
        last.refuse("ticks(100) from 9599", NONE, x -> x.ticks(100));
        last.refuse("ticks(0) from 9599", NONE, x -> x.ticks(0));
        NoonBasins y = Due.ruled("spring if day=399 and hour=22?9:0 end;");
        y.basin(9, 9, 0);
        toTheEnd(y, 9598);
        Due.is("THE TICK", y.about(0), 9598);
        Due.is("DROPS", y.drops(0), 0);
        Due.is("ticks(2)", y.ticks(2), NONE);
        Due.is("ticks(1)", y.ticks(1), 0);
        Due.is("THE TICK", y.about(0), 9599);
        Due.is("DAY 399, HOUR 22 was the last", y.drops(0), 9);
    }

    private static void hoursAndDays() {
        Due.promise(14, "HOUR is TICK mod 24, DAY TICK / 24");
        NoonBasins x = Due.ruled("spring hour;");
        x.basin(9, 99, 0);
        int sum = 0;
        for (int t = 0; t < 14; t++) {
            sum += t;
            x.ticks(1);
            Due.is("DROPS behind TICK " + t, x.drops(0), sum);
        }
        NoonBasins y = Due.ruled("spring if hour=23?1:if hour=0?2:0 end end;sun 0;");
        y.basin(9, 99, 0);
        y.ticks(1);
        Due.is("HOUR 0", y.drops(0), 2);
        y.ticks(22);
        Due.is("HOURS 1 .. 22", y.drops(0), 2);
        y.ticks(1);
        Due.is("HOUR 23", y.drops(0), 3);
        y.ticks(1);
        Due.is("HOUR 0 of the next DAY", y.drops(0), 5);
        NoonBasins z = Due.ruled("spring day;");
        z.basin(9, 99, 0);
        z.ticks(24);
        Due.is("DAY 0", z.drops(0), 0);
        z.ticks(1);
        Due.is("DAY 1", z.drops(0), 1);
        z.ticks(23);
        Due.is("DAY 1 to its end", z.drops(0), 24);
        z.ticks(1);
        Due.is("DAY 2", z.drops(0), 26);
    }

    private static void theVillageByDays() {
        Due.promise(14, "with a new DAY THE VILLAGE has none in it");
        NoonBasins x = new NoonBasins();
        x.basin(9, 1, 1);
        for (int t = 1; t <= 50; t++) {
            Due.is("one falls over", x.ticks(1), 1);
            Due.is("THE VILLAGE behind " + t, x.about(5), t);
            Due.is("in this DAY behind " + t, x.about(6), t % 24);
        }
        NoonBasins y = new NoonBasins();
        y.basin(9, 1, 1);
        Due.is("over three DAYS", y.ticks(60), 60);
        Due.is("THE VILLAGE", y.about(5), 60);
        Due.is("in this DAY", y.about(6), 12);
        Due.is("to its end", y.ticks(12), 12);
        Due.is("THE VILLAGE", y.about(5), 72);
        Due.is("none in it", y.about(6), 0);
    }

    private static void springs() {
        Due.promise(14, "(1) the SPRING gives BASIN 0");
        NoonBasins x = new NoonBasins();
        x.basin(1, 9, 0);
        x.basin(99, 9, 0);
        x.ticks(1);
        Due.is("without: 1", x.drops(0), 1);
        Due.is("no other one", x.drops(1), 0);
        Due.read(x, "sun 0;");
        x.by(0);
        x.ticks(1);
        Due.is("a TEXT without it: 1", x.drops(0), 2);
        Due.read(x, "spring 0;");
        x.by(1);
        x.ticks(1);
        Due.is("0", x.drops(0), 2);
        Due.read(x, "spring -1;");
        x.by(2);
        x.ticks(1);
        Due.is("0 at least", x.drops(0), 2);
        // It comes ahead of the SIPHONS: the drop that makes the CREST counts in the same TICK.
        NoonBasins y = new NoonBasins();
        y.basin(9, 9, 4);
        y.siphon(0, NONE, 5, 0, 9, 0);
        Due.is("plays at once", y.plays(0), 1);
        Due.is("all of it", y.ticks(1), 5);
    }

    private static void starts() {
        Due.promise(14, "(2) it RUNS, if FROM has CREST or more");
        for (int drops = 3; drops <= 7; drops++) {
            NoonBasins x = Due.ruled("spring 0;");
            x.basin(9, 9, drops);
            x.siphon(0, NONE, 5, 2, 1, 0);
            Due.is("plays with " + drops, x.plays(0), drops >= 5 ? 1 : 0);
            Due.is("carries with " + drops, x.ticks(1), drops >= 5 ? 1 : 0);
            Due.is("RUNS with " + drops, x.of(0, 0), drops >= 5 ? 1 : 0);
        }
        NoonBasins y = Due.ruled("spring 0;");
        y.basin(9, 1, 1);
        y.siphon(0, NONE, 1, 0, 1, 0);
        Due.is("CREST 1", y.plays(0), 1);
        NoonBasins z = Due.ruled("spring 0;");
        z.basin(9, 99, 99);
        z.siphon(0, NONE, 99, 98, 9, 0);
        Due.is("CREST 99", z.ticks(1), 1);
        Due.is("98 stay", z.drops(0), 98);
        Due.is("98 are too few", z.plays(0), 0);
        // What is above ROOM counts: it falls over later in the TICK.
        NoonBasins w = Due.ruled("spring 9;");
        w.basin(9, 5, 0);
        w.siphon(0, NONE, 5, 4, 9, 0);
        Due.is("plays", w.plays(0), 1);
        Due.is("5 carried, none falls over", w.ticks(1), 5);
        Due.is("4 stay", w.drops(0), 4);
    }

    private static void stops() {
        Due.promise(14, "(2) one that RUNS stops, if FROM has BARE or less");
        // A sun of n leaves 8 - 1 - n behind the first TICK; the SIPHON runs then, and BARE is 3.
        for (int sun = 3; sun <= 5; sun++) {
            NoonBasins x = Due.ruled("spring 0;sun if hour=0?" + sun + ":0 end;");
            x.basin(9, 9, 8);
            x.siphon(0, NONE, 8, 3, 1, 4);
            x.ticks(1);
            Due.is("DROPS", x.drops(0), 7 - sun);
            Due.is("RUNS yet", x.of(0, 0), 1);
            Due.is("plays with " + (7 - sun), x.plays(0), 7 - sun > 3 ? 1 : 0);
            x.ticks(1);
            Due.is("has stopped", x.of(0, 0), 0);
            Due.is("RESTS", x.of(0, 1), 4);
        }
        // It runs on below its CREST, as long as there is more than BARE.
        NoonBasins y = Due.ruled("spring 0;");
        y.basin(9, 9, 9);
        y.siphon(0, NONE, 9, 6, 1, 0);
        Due.is("9", y.ticks(1), 1);
        Due.is("8 runs on", y.ticks(1), 1);
        Due.is("RUNS", y.of(0, 0), 1);
        Due.is("7 runs on", y.ticks(1), 1);
        Due.is("6 is BARE", y.of(0, 0), 0);
        Due.is("none more", y.ticks(1), 0);
        // One that doesn't RUN and finds BARE or less doesn't stop: it doesn't REST.
        NoonBasins z = Due.ruled("spring 0;");
        z.basin(9, 9, 0);
        z.siphon(0, NONE, 9, 6, 1, 9);
        z.ticks(1);
        Due.is("RESTS", z.of(0, 1), 0);
    }

    private static void cocksInATick() {
        Due.promise(14, "(2) COCKS");
        NoonBasins x = Due.ruled("spring 0;");
        x.basin(9, 9, 9);
        x.siphon(0, NONE, 5, 1, 1, 2);
        x.cock(0, false);
        Due.is("a shut one doesn't start", x.ticks(1), 0);
        Due.is("nor RESTS", x.of(0, 1), 0);
        x.cock(0, true);
        Due.is("an open one does", x.ticks(1), 1);
        x.cock(0, false);
        Due.is("RUNS until the TICK", x.of(0, 0), 1);
        Due.is("stops", x.ticks(1), 0);
        Due.is("RESTS", x.of(0, 1), 2);
        Due.is("8 stay", x.drops(0), 8);
        // Opened again ahead of the TICK it never stopped.
        NoonBasins y = Due.ruled("spring 0;");
        y.basin(9, 9, 9);
        y.siphon(0, NONE, 9, 1, 1, 2);
        y.ticks(1);
        y.cock(0, false);
        y.cock(0, true);
        Due.is("runs on below its CREST", y.ticks(1), 1);
        // A shut one that RESTS does so one TICK less.
        x.ticks(1);
        Due.is("RESTS", x.of(0, 1), 1);
        x.ticks(1);
        Due.is("RESTS no more", x.of(0, 1), 0);
        Due.is("shut yet", x.plays(0), 0);
    }

    private static void allByHowBasinsAreNow() {
        Due.promise(14, "(2) all by how BASINS are now");
        // SIPHON 0 brings the CREST of SIPHON 1 to BASIN 1, but behind (2): it starts a TICK later.
        NoonBasins x = Due.ruled("spring 0;");
        x.basin(50, 9, 9);
        x.basin(40, 9, 0);
        x.siphon(0, 1, 9, 0, 5, 0);
        x.siphon(1, NONE, 5, 0, 9, 0);
        Due.is("TICK 0", x.plays(0), 1);
        Due.is("TICK 1", x.plays(1), 3);
        // SIPHON 0 empties BASIN 0 below the CREST of SIPHON 1: both start all the same.
        NoonBasins y = Due.ruled("spring 0;");
        y.basin(50, 9, 9);
        y.siphon(0, NONE, 9, 0, 8, 0);
        y.siphon(0, NONE, 9, 0, 8, 0);
        Due.is("both", y.plays(0), 3);
        Due.is("8 and 1", y.ticks(1), 9);
        // What the sun took at the end of a TICK is missing in the next.
        NoonBasins z = Due.ruled("spring 0;sun 1;");
        z.basin(50, 9, 9);
        z.siphon(0, NONE, 9, 8, 1, 0);
        Due.is("9 are there yet", z.plays(0), 1);
        z.cock(0, false);
        z.ticks(1);
        z.cock(0, true);
        Due.is("8 are there", z.plays(0), 0);
    }

    private static void flows() {
        Due.promise(14, "(3) without: BORE less CLOG, 0 at least");
        for (int clog = 0; clog <= 9; clog++) {
            NoonBasins x = Due.ruled("spring 0;");
            x.basin(9, 9, 9);
            x.siphon(0, NONE, 9, 0, 4, 0);
            x.clog(0, clog);
            Due.is("plays with CLOG " + clog, x.plays(0), 1);
            Due.is("carries with CLOG " + clog, x.ticks(1), Math.max(0, 4 - clog));
            Due.is("DROPS with CLOG " + clog, x.drops(0), 9 - Math.max(0, 4 - clog));
            Due.is("RUNS with CLOG " + clog, x.of(0, 0), 1);
            Due.is("plays in the next TICK too", x.plays(0), 1);
        }
        for (int bore = 1; bore <= 9; bore++) {
            NoonBasins x = Due.ruled("spring 0;");
            x.basin(9, 99, 99);
            x.siphon(0, NONE, 9, 0, bore, 0);
            Due.is("carries with BORE " + bore, x.ticks(1), bore);
            x.clog(0, 9);
            Due.is("carries with CLOG 9", x.ticks(1), 0);
        }
        // A TEXT without flow: as without a TEXT.
        NoonBasins y = Due.ruled("spring 0;sun 0;due 1;");
        y.basin(9, 99, 99);
        y.siphon(0, NONE, 9, 0, 7, 0);
        y.clog(0, 2);
        Due.is("carries", y.ticks(1), 5);
    }

    private static void flowsByLaw() {
        Due.promise(14, "(3) flow: 0 at least, 99 at most");
        int[] flow = {-9999, -1, 0, 1, 98, 99, 100, 9999};
        for (int f : flow) {
            NoonBasins x = Due.ruled("spring 99;flow " + f + ";");
            x.basin(9, 99, 99);
            x.siphon(0, NONE, 9, 0, 9, 0);
            int carried = Math.max(0, Math.min(99, f));
            Due.is("198 are there, flow " + f, x.ticks(1), 99);
            Due.is("what fell over is the rest", x.drops(0), 99);
            Due.is("RUNS", x.of(0, 0), 1);
            NoonBasins y = Due.ruled("spring 0;flow " + f + ";");
            y.basin(9, 99, 99);
            y.basin(5, 99, 0);
            y.siphon(0, 1, 9, 0, 9, 0);
            y.ticks(1);
            Due.is("carried by flow " + f, y.drops(1), carried);
        }
        // By law too where just one drop is above BARE.
        NoonBasins w = Due.ruled("spring 0;flow 0;");
        w.basin(9, 9, 5);
        w.siphon(0, NONE, 5, 4, 9, 0);
        Due.is("flow 0 of one above BARE", w.ticks(1), 0);
        Due.is("it RUNS on", w.of(0, 0), 1);
        NoonBasins v = Due.ruled("spring 0;flow 1;");
        v.basin(9, 9, 5);
        v.siphon(0, NONE, 5, 4, 1, 0);
        v.clog(0, 9);
        Due.is("flow 1 of one above BARE", v.ticks(1), 1);
        // 198 are there, 99 are carried: 99 stay, and none falls over.
        NoonBasins z = Due.ruled("spring 99;flow 9999;");
        z.basin(9, 99, 99);
        z.basin(5, 99, 0);
        z.siphon(0, 1, 9, 0, 9, 0);
        Due.is("none falls over", z.ticks(1), 0);
        Due.is("99 at most", z.drops(1), 99);
        Due.is("99 stay", z.drops(0), 99);
    }

    private static void atMostWhatIsAboveBare() {
        Due.promise(14, "(3) at most what FROM has above BARE; at BARE it stops");
        for (int drops = 5; drops <= 9; drops++) {
            NoonBasins x = Due.ruled("spring 0;");
            x.basin(9, 9, drops);
            x.siphon(0, NONE, 5, 4, 3, 6);
            int above = drops - 4;
            Due.is("carries of " + drops, x.ticks(1), Math.min(3, above));
            Due.is("DROPS of " + drops, x.drops(0), drops - Math.min(3, above));
            Due.is("RUNS of " + drops, x.of(0, 0), above > 3 ? 1 : 0);
            Due.is("RESTS of " + drops, x.of(0, 1), above > 3 ? 0 : 6);
        }
        NoonBasins y = Due.ruled("spring 0;");
        y.basin(9, 9, 1);
        y.siphon(0, NONE, 1, 0, 9, 1);
        Due.is("BARE 0: all of it", y.ticks(1), 1);
        Due.is("DROPS", y.drops(0), 0);
        Due.is("stops", y.of(0, 0), 0);
    }

    private static void turnByTurn() {
        Due.promise(14, "(3) SIPHON by SIPHON");
        // The first leaves BARE of the second, the second carries 0 and stops; the third has 2 left.
        NoonBasins x = Due.ruled("spring 0;");
        x.basin(50, 9, 9);
        x.siphon(0, NONE, 9, 0, 5, 1);
        x.siphon(0, NONE, 9, 4, 5, 2);
        x.siphon(0, NONE, 9, 2, 5, 3);
        Due.is("all play", x.plays(0), 7);
        Due.is("5, 0 and 2", x.ticks(1), 7);
        Due.is("the first RUNS", x.of(0, 0), 1);
        Due.is("the second stopped", x.of(1, 0), 0);
        Due.is("the second RESTS", x.of(1, 1), 2);
        Due.is("the third stopped", x.of(2, 0), 0);
        Due.is("the third RESTS", x.of(2, 1), 3);
        Due.is("DROPS", x.drops(0), 2);
        // One below BARE at its turn carries 0, not less.
        NoonBasins y = Due.ruled("spring 0;");
        y.basin(50, 9, 9);
        y.siphon(0, NONE, 9, 0, 7, 1);
        y.siphon(0, NONE, 9, 8, 5, 2);
        Due.is("7 and 0", y.ticks(1), 7);
        Due.is("DROPS", y.drops(0), 2);
        Due.is("the second stopped", y.of(1, 0), 0);
        // Of a later turn than what brings: it is there; of an earlier one: not yet.
        NoonBasins z = Due.ruled("spring 0;");
        z.basin(50, 9, 9);
        z.basin(40, 99, 3);
        z.siphon(1, NONE, 1, 0, 9, 0);
        z.siphon(0, 1, 9, 0, 6, 0);
        z.siphon(1, NONE, 1, 0, 4, 0);
        Due.is("3, and 4 of 6", z.ticks(1), 7);
        Due.is("2 stay", z.drops(1), 2);
        Due.is("the first stopped, none being there at its turn", z.of(0, 0), 0);
        Due.is("the third RUNS", z.of(2, 0), 1);
    }

    private static void namesOfFlow() {
        Due.promise(14, "(3) level at its turn, fall, bore, clog, hour, day");
        NoonBasins x = Due.ruled("spring 0;flow level/10;");
        x.basin(90, 99, 99);
        x.basin(50, 99, 9);
        x.siphon(0, 1, 9, 0, 9, 0);
        x.siphon(0, NONE, 9, 0, 9, 0);
        x.siphon(1, NONE, 9, 0, 9, 0);
        // 99 / 10, then 90 / 10, then 18 / 10.
        Due.is("9 to the garden by the second, 1 by the third", x.ticks(1), 10);
        Due.is("DROPS of 0", x.drops(0), 81);
        Due.is("DROPS of 1", x.drops(1), 17);
        NoonBasins y = Due.ruled("spring 0;flow fall;");
        y.basin(30, 99, 99);
        y.basin(29, 99, 0);
        y.basin(0, 99, 0);
        y.siphon(0, 1, 9, 0, 9, 0);
        y.siphon(0, 2, 9, 0, 9, 0);
        y.siphon(0, NONE, 9, 0, 9, 0);
        Due.is("to the garden all of its HEIGHT", y.ticks(1), 30);
        Due.is("less that of TO", y.drops(1), 1);
        Due.is("less that of TO, which is 0", y.drops(2), 30);
        NoonBasins z = Due.ruled("spring 0;flow bore*10+clog;");
        z.basin(30, 99, 99);
        z.siphon(0, NONE, 9, 0, 1, 0);
        z.siphon(0, NONE, 9, 0, 5, 0);
        z.clog(0, 9);
        z.clog(1, 2);
        Due.is("19 and 52", z.ticks(1), 71);
        NoonBasins w = Due.ruled("spring 0;flow hour+day*30;");
        w.basin(30, 99, 99);
        w.siphon(0, NONE, 9, 0, 1, 0);
        Due.is("HOUR 0", w.ticks(1), 0);
        Due.is("HOUR 1", w.ticks(1), 1);
        w.cock(0, false);
        w.ticks(20);
        w.cock(0, true);
        Due.is("HOUR 22", w.ticks(1), 22);
        Due.is("HOUR 23", w.ticks(1), 23);
        Due.is("DAY 1, HOUR 0", w.ticks(1), 30);
    }

    private static void fallsOver() {
        Due.promise(14, "(4) what is above ROOM falls over, to THE VILLAGE");
        for (int spring = 3; spring <= 6; spring++) {
            NoonBasins x = Due.ruled("spring " + spring + ";");
            x.basin(9, 9, 5);
            Due.is("by " + spring, x.ticks(1), Math.max(0, spring - 4));
            Due.is("DROPS by " + spring, x.drops(0), Math.min(9, 5 + spring));
            Due.is("THE VILLAGE by " + spring, x.about(5), Math.max(0, spring - 4));
            Due.is("in this DAY by " + spring, x.about(6), Math.max(0, spring - 4));
        }
        // What falls over doesn't come to the BASIN below, and each has its own ROOM.
        NoonBasins y = Due.ruled("spring 9;");
        y.basin(50, 5, 5);
        y.basin(40, 3, 3);
        y.basin(30, 9, 0);
        y.siphon(0, 1, 5, 0, 2, 0);
        Due.is("7 above, 2 below", y.ticks(1), 9);
        Due.is("DROPS of 0", y.drops(0), 5);
        Due.is("DROPS of 1", y.drops(1), 3);
        Due.is("DROPS of 2", y.drops(2), 0);
        // Above ROOM for a while: what is carried on in the same TICK doesn't fall over.
        NoonBasins z = Due.ruled("spring 0;");
        z.basin(50, 9, 9);
        z.basin(40, 3, 3);
        z.basin(30, 9, 0);
        z.siphon(0, 1, 9, 0, 6, 0);
        z.siphon(1, 2, 3, 0, 7, 0);
        Due.is("none falls over", z.ticks(1), 0);
        Due.is("2 stay", z.drops(1), 2);
        Due.is("7 went on", z.drops(2), 7);
    }

    private static void suns() {
        Due.promise(14, "(5) the sun takes 0 at least, all that there are at most");
        int[] sun = {-9999, -1, 0, 1, 4, 5, 6, 9999};
        for (int s : sun) {
            NoonBasins x = Due.ruled("spring 0;sun " + s + ";");
            x.basin(9, 9, 5);
            x.basin(9, 9, 0);
            Due.is("THE VILLAGE has none of it", x.ticks(1), 0);
            Due.is("DROPS by sun " + s, x.drops(0), 5 - Math.max(0, Math.min(5, s)));
            Due.is("of none", x.drops(1), 0);
        }
        NoonBasins y = Due.ruled("spring 0;");
        y.basin(9, 9, 5);
        y.ticks(9);
        Due.is("without: 0", y.drops(0), 5);
        // Behind (4): it takes from what stayed, not from what fell over.
        NoonBasins z = Due.ruled("spring 5;sun 2;");
        z.basin(9, 9, 9);
        Due.is("5 fall over", z.ticks(1), 5);
        Due.is("then 2 are taken", z.drops(0), 7);
        // Behind (3): what was carried down is taken below.
        NoonBasins w = Due.ruled("spring 0;sun 1;");
        w.basin(9, 9, 9);
        w.basin(5, 9, 0);
        w.siphon(0, 1, 9, 0, 1, 0);
        w.ticks(1);
        Due.is("above", w.drops(0), 7);
        Due.is("below", w.drops(1), 0);
    }

    private static void namesOfSun() {
        Due.promise(14, "(5) level, room, height of each BASIN, hour, day");
        NoonBasins x = Due.ruled("spring 9;sun level/10;");
        x.basin(9, 50, 50);
        x.basin(8, 99, 9);
        x.basin(7, 99, 10);
        x.ticks(1);
        Due.is("level is ROOM behind (4)", x.drops(0), 45);
        Due.is("9 / 10", x.drops(1), 9);
        Due.is("10 / 10", x.drops(2), 9);
        NoonBasins y = Due.ruled("spring 0;sun room;");
        y.basin(9, 99, 50);
        y.basin(8, 20, 20);
        y.basin(7, 1, 1);
        y.ticks(1);
        Due.is("ROOM 99", y.drops(0), 0);
        Due.is("ROOM 20", y.drops(1), 0);
        Due.is("ROOM 1", y.drops(2), 0);
        NoonBasins z = Due.ruled("spring 0;sun height-room;");
        z.basin(99, 90, 50);
        z.basin(21, 20, 20);
        z.basin(0, 99, 7);
        z.ticks(1);
        Due.is("99 less 90", z.drops(0), 41);
        Due.is("21 less 20", z.drops(1), 19);
        Due.is("0 less 99", z.drops(2), 7);
        NoonBasins w = Due.ruled("spring 0;sun if hour=23 or day=1?1:0 end;");
        w.basin(9, 9, 9);
        w.ticks(23);
        Due.is("HOURS 0 .. 22", w.drops(0), 9);
        w.ticks(1);
        Due.is("HOUR 23", w.drops(0), 8);
        w.ticks(1);
        Due.is("DAY 1", w.drops(0), 7);
    }

    private static void rests() {
        Due.promise(14, "(6) one that stopped RESTS REST TICKS, each TICK one less");
        for (int rest = 0; rest <= 9; rest++) {
            // One comes a TICK: BARE behind each playing, and CREST again behind one TICK more.
            NoonBasins x = new NoonBasins();
            x.basin(9, 99, 4);
            x.siphon(0, NONE, 5, 4, 9, rest);
            x.ticks(1);
            Due.is("stopped with REST " + rest, x.of(0, 0), 0);
            Due.is("RESTS with REST " + rest, x.of(0, 1), rest);
            for (int t = 1; t <= rest; t++) {
                Due.is("doesn't play", x.plays(0), 0);
                Due.is("THE VILLAGE gets none", x.ticks(1), 0);
                Due.is("RESTS with REST " + rest + " behind " + t, x.of(0, 1), rest - t);
            }
            Due.is("plays again with REST " + rest, x.plays(0), 1);
            Due.is("what came since", x.ticks(1), Math.min(9, rest + 1));
            Due.is("RESTS again, or RUNS", x.of(0, 1), rest + 1 <= 9 ? rest : 0);
        }
        // It isn't less than none.
        NoonBasins y = Due.ruled("spring 0;");
        y.basin(9, 9, 9);
        y.siphon(0, NONE, 9, 8, 1, 1);
        y.ticks(5);
        Due.is("RESTS no more", y.of(0, 1), 0);
    }

    /** Drops that add up: what comes is there, was taken by the sun, or is THE VILLAGE's. */
    private static void addsUp() {
        Due.promise(14, "ticks: drops add up");
        NoonBasins x = Due.ruled("spring 7;flow bore+level/9;");
        int there = 0;
        for (int b = 0; b < 10; b++) {
            x.basin(99 - b, 20 + b, 10 + b);
            there += 10 + b;
        }
        for (int s = 0; s < 14; s++) {
            x.siphon(s % 10, s < 9 ? s + 1 : NONE, 12 + s % 10, s % 5, 1 + s % 9, s % 10);
        }
        int got = 0;
        for (int n = 1; n <= 30; n++) {
            got += x.ticks(n);
            there += 7 * n;
            int now = 0;
            for (int b = 0; b < 10; b++) {
                int has = x.drops(b);
                now += has;
                Due.holds("no more than ROOM", has <= 20 + b && has >= 0);
            }
            Due.is("all drops", now + x.about(5), there);
            Due.is("what THE VILLAGE got", x.about(5), got);
        }
    }
}
