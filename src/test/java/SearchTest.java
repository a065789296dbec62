/** Promises 17 to 23, 26 and 27: wants, turns, digging, hearing, the diary. */
public final class SearchTest {
    public static void main(String[] args) {
        wants();
        goneThings();
        turns();
        farTurns();
        digs();
        digOrder();
        digBounds();
        hearing();
        looking();
        diary();
        Due.close();
    }

    /** Fills by one a TICK to 5, then plays in one TICK and is empty. */
    private static NoonBasins fiveBeat() {
        NoonBasins x = new NoonBasins();
        x.basin(50, 9, 0);
        x.siphon(0, -1, 5, 0, 9, 0);
        return x;
    }

    private static void wants() {
        Due.promise(17, "want");
        NoonBasins x = fiveBeat();
        Due.is("kind -1", x.want(-1, 0, 0, 0), -1);
        Due.is("kind 4", x.want(4, 0, 0, 0), -1);
        Due.is("TICK -1", x.want(0, -1, 0, 0), -1);
        Due.is("TICK 24", x.want(0, 24, 0, 0), -1);
        Due.is("siphon 1", x.want(0, 0, 1, 0), -1);
        Due.is("siphon -1", x.want(1, 0, -1, 0), -1);
        Due.is("basin 1", x.want(2, 0, 1, 0), -1);
        Due.is("basin -1", x.want(3, 0, -1, 0), -1);
        Due.is("v -1", x.want(2, 0, 0, -1), -1);
        Due.is("v 100", x.want(3, 0, 0, 100), -1);
        Due.is("none came", x.about(7), 0);
        Due.promise(18, "missed");
        Due.is("without wants", x.missed(), -1);
        Due.is("without basins", new NoonBasins().missed(), -1);
        Due.is("v of no matter", x.want(0, 4, 0, 1000), 1);
        Due.is("v of no matter", x.want(1, 3, 0, -7), 2);
        Due.is("4 behind TICK 3", x.want(2, 3, 0, 4), 3);
        Due.is("none behind TICK 4", x.want(3, 4, 0, 0), 4);
        Due.is("all met", x.missed(), -1);
        Due.is("TICK 23", x.want(3, 23, 0, 3), 5);
        Due.is("missed: it has 4", x.missed(), 4);
        Due.is("TICK 0", x.want(2, 0, 0, 2), 6);
        Due.is("the first by number, not by TICK", x.missed(), 4);
        Due.is("7", x.want(0, 0, 0, 0), 7);
        Due.is("8", x.want(0, 0, 0, 0), 8);
        Due.is("a ninth", x.want(0, 0, 0, 0), -1);
        Due.is("about(7)", x.about(7), 8);
    }

    private static void goneThings() {
        Due.promise(18, "missed: what is there no more");
        NoonBasins x = fiveBeat();
        x.basin(9, 9, 9);
        x.siphon(1, -1, 1, 0, 1, 0);
        Due.read(x, "basin 50,9,0;");
        x.image();
        x.want(1, 0, 1, 0);
        x.want(3, 0, 1, 0);
        x.want(2, 0, 1, 0);
        x.laid(0);
        Due.is("doesn't play, has none", x.missed(), -1);
        Due.is("no turns are needed", x.turnsOf(0), 0);
        x.back();
        x.want(2, 0, 1, 1);
        x.laid(0);
        Due.is("has not one", x.missed(), 0);
        Due.is("nor by turns", x.turnsOf(0), -1);
        x.back();
        x.want(0, 0, 1, 0);
        x.laid(0);
        Due.is("doesn't play", x.missed(), 0);
        Due.is("nor by turns", x.turnsOf(0), -1);
        x.back();
        x.heard(0, 1, true);
        x.line(0, 1, true);
        x.laid(0);
        Due.is("none is as was heard", x.suspects(), 0);
        Due.is("and nowhere to look", x.look(0), -1);
        Due.is("nor was it written", x.written(-1), 0);
    }

    private static void turnsAre(NoonBasins x, int... due) {
        for (int i = 0; i < 5; i++) {
            Due.is("turnsOf(" + i + ")", x.turnsOf(i), i < due.length ? due[i] : -1);
        }
    }

    private static void turns() {
        Due.promise(19, "turnsOf");
        NoonBasins x = fiveBeat();
        Due.is("without basins", new NoonBasins().turnsOf(0), -1);
        turnsAre(x, 0);
        Due.is("turnsOf(5)", x.turnsOf(5), -1);
        Due.is("turnsOf(-1)", x.turnsOf(-1), -1);
        x.image();
        x.want(1, 4, 0, 0);
        turnsAre(x, 1, 0, 0);
        x.want(0, 5, 0, 0);
        turnsAre(x, 2, 0, 0, 5, 0);
        x.want(2, 5, 0, 1);
        turnsAre(x, -1);
        x.back();
        // It has to play at TICK 4 and not at TICK 9: shut it as soon as it has played.
        x.want(0, 4, 0, 0);
        x.want(1, 9, 0, 0);
        turnsAre(x, 1, 5, 0);
        Due.is("nothing is turned", x.of(0, 2), 1);
        Due.is("nothing is moved", x.about(0), 0);
        x.cock(0, false);
        turnsAre(x, 2, 0, 0, 5, 0);
        // Two that run: the lower siphon first, both ahead of one TICK.
        NoonBasins y = new NoonBasins();
        y.basin(90, 9, 9);
        y.basin(80, 9, 9);
        y.siphon(1, -1, 1, 0, 1, 0);
        y.siphon(0, -1, 1, 0, 1, 0);
        y.want(1, 0, 1, 0);
        turnsAre(y, 1, 0, 1);
        y.want(1, 0, 0, 0);
        turnsAre(y, 2, 0, 0, 0, 1);
        y.want(0, 1, 0, 0);
        turnsAre(y, -1);
        NoonBasins z = new NoonBasins();
        z.basin(90, 9, 9);
        z.siphon(0, -1, 1, 0, 1, 0);
        z.want(0, 22, 0, 0);
        z.want(1, 23, 0, 0);
        turnsAre(z, 1, 23, 0);
        z.want(2, 22, 0, 9);
        turnsAre(z, 1, 23, 0);
    }

    /** A turn far above a WANT helps. */
    private static void farTurns() {
        Due.promise(19, "turnsOf: from far above");
        NoonBasins x = new NoonBasins();
        for (int i = 0; i < 4; i++) {
            x.basin(90 - i, 9, i == 0 ? 9 : 0);
        }
        for (int i = 0; i < 3; i++) {
            x.siphon(i, i + 1, 1, 0, 9, 0);
        }
        // What is above at first comes a basin further down in each TICK: behind TICK 2 it is below.
        x.image();
        x.want(2, 3, 3, 9);
        turnsAre(x, 0);
        x.cock(0, false);
        turnsAre(x, 1, 0, 0);
        x.back();
        x.siphon(0, -1, 1, 0, 9, 0);
        x.siphon(2, -1, 1, 0, 9, 0);
        x.want(3, 4, 3, 0);
        turnsAre(x, 1, 0, 0);
    }

    private static void digsAre(NoonBasins x, int set, int... due) {
        for (int i = 0; i < 4; i++) {
            Due.is("dig(" + set + ", " + i + ")", x.dig(set, i), i < due.length ? due[i] : -1);
        }
    }

    private static void digs() {
        Due.promise(20, "dig");
        NoonBasins x = fiveBeat();
        Due.read(x, "");
        Due.read(x, "spring 2;");
        x.want(0, 7, 0, 0);
        Due.is("set 0", x.dig(0, 0), -1);
        Due.is("set 4", x.dig(4, 0), -1);
        Due.is("set 5", x.dig(5, 0), -1);
        Due.is("set -1", x.dig(-1, 0), -1);
        Due.is("what 4", x.dig(1, 4), -1);
        Due.is("what -1", x.dig(1, -1), -1);
        // With one drop a TICK a CREST of 4 or 8 plays in TICK 7, with two one of 3, 4, 7 or 8.
        digsAre(x, 1, 1, 1, 0, 4);
        digsAre(x, 2, 1, 1, 0, 4);
        digsAre(x, 3, 1, 1, 0, 4);
        x.want(1, 3, 0, 0);
        digsAre(x, 1, 3, 1, 0, 8);
        Due.is("nothing is dug", x.of(0, 3), 5);
        Due.is("nothing rules", x.about(4), -1);
        NoonBasins y = fiveBeat();
        Due.read(y, "");
        y.want(0, 4, 0, 0);
        digsAre(y, 1);
        Due.is("without basins", new NoonBasins().dig(1, 0), -1);
        Due.is("all are met by one, not by the other", Due.read(y, "spring 0;"), 1);
        digsAre(y, 1);
        digsAre(y, 2);
        digsAre(y, 3);
    }

    private static void digOrder() {
        Due.promise(20, "dig: the order");
        // 7 are there then: a bore of 1 less, a crest of 1 more or a room of 1 less would do.
        NoonBasins x = new NoonBasins();
        x.basin(50, 8, 6);
        x.siphon(0, -1, 7, 3, 2, 0);
        Due.read(x, "");
        x.want(2, 0, 0, 6);
        digsAre(x, 1, 1, 0, 0, 1);
        x.want(2, 0, 0, 7);
        digsAre(x, 1, 1, 1, 0, 8);
        // A lower number ahead of a higher one: of 2 drops, 1 and 3 are as near.
        NoonBasins y = new NoonBasins();
        y.basin(50, 9, 9);
        y.basin(40, 9, 0);
        y.siphon(0, 1, 9, 0, 5, 0);
        Due.read(y, "spring 0;flow if bore=5?0:9 end;");
        y.want(2, 0, 1, 9);
        digsAre(y, 1, 1, 0, 0, 4);
        // Of like ones the lower siphon, and less change ahead of the order.
        NoonBasins z = new NoonBasins();
        z.basin(50, 9, 9);
        z.siphon(0, -1, 9, 0, 3, 0);
        z.siphon(0, -1, 9, 0, 3, 0);
        Due.read(z, "spring 0;");
        z.want(3, 0, 0, 2);
        digsAre(z, 1, 1, 0, 0, 4);
        NoonBasins w = new NoonBasins();
        w.basin(50, 9, 6);
        w.siphon(0, -1, 6, 0, 9, 0);
        Due.read(w, "spring 0;");
        w.want(2, 0, 0, 4);
        digsAre(w, 1, 1, 1, 0, 7);
        w.want(0, 0, 0, 0);
        digsAre(w, 1, 7, 0, 0, 2);
    }

    private static void digBounds() {
        Due.promise(20, "dig: the bounds");
        NoonBasins x = new NoonBasins();
        x.basin(50, 5, 5);
        Due.read(x, "");
        x.want(2, 23, 0, 29);
        digsAre(x, 1, 24, 2, 0, 29);
        x.want(2, 23, 0, 30);
        digsAre(x, 1);
        // A room isn't dug below its drops, nor below a crest.
        NoonBasins y = new NoonBasins();
        y.basin(50, 9, 4);
        Due.read(y, "");
        y.image();
        y.want(3, 23, 0, 4);
        digsAre(y, 1, 5, 2, 0, 4);
        y.want(3, 23, 0, 3);
        digsAre(y, 1);
        y.back();
        y.siphon(0, -1, 6, 5, 1, 0);
        y.cock(0, false);
        y.want(3, 23, 0, 6);
        digsAre(y, 1, 3, 2, 0, 6);
        y.want(3, 23, 0, 5);
        digsAre(y, 1);
        // A room is dug to 1, and to 99.
        NoonBasins v = new NoonBasins();
        v.basin(50, 2, 1);
        Due.read(v, "spring 99;");
        v.image();
        v.want(3, 5, 0, 1);
        digsAre(v, 1, 1, 2, 0, 1);
        v.back();
        v.laid(0);
        v.basin(50, 1, 1);
        v.want(2, 0, 0, 99);
        digsAre(v, 1, 98, 2, 0, 99);
        // By a law that asks for it, a room can matter though nothing ever falls over.
        NoonBasins w = new NoonBasins();
        w.basin(50, 9, 9);
        Due.read(w, "spring 0;sun if room>50?0:1 end;");
        w.want(2, 3, 0, 9);
        digsAre(w, 1, 42, 2, 0, 51);
        // A crest two below, the first of them being as much out of reach as none.
        NoonBasins u = new NoonBasins();
        u.basin(50, 9, 5);
        u.siphon(0, -1, 9, 1, 1, 0);
        Due.read(u, "");
        u.want(0, 1, 0, 0);
        digsAre(u, 1, 2, 1, 0, 7);
        // The second siphon's crest has its own bounds.
        NoonBasins t = new NoonBasins();
        t.basin(50, 9, 4);
        t.siphon(0, -1, 9, 0, 1, 0);
        t.siphon(0, -1, 9, 5, 1, 0);
        Due.read(t, "");
        t.image();
        t.want(0, 0, 1, 0);
        digsAre(t, 1);
        t.back();
        t.want(0, 1, 1, 0);
        digsAre(t, 1, 3, 1, 1, 6);
        // A crest isn't dug to its bare nor above the room, a bore not above 9.
        NoonBasins z = new NoonBasins();
        z.basin(50, 9, 4);
        z.siphon(0, -1, 9, 5, 1, 0);
        Due.read(z, "");
        z.image();
        z.want(0, 1, 0, 0);
        digsAre(z, 1, 3, 1, 0, 6);
        z.back();
        z.want(0, 0, 0, 0);
        digsAre(z, 1);
        z.back();
        // Only a room of 8 would do, and that is below the crest.
        z.want(1, 4, 0, 0);
        z.want(3, 4, 0, 8);
        digsAre(z, 1);
    }

    private static void hearing() {
        Due.promise(21, "heard");
        NoonBasins x = fiveBeat();
        Due.is("TICK -1", x.heard(-1, 0, true), -1);
        Due.is("TICK 48", x.heard(48, 0, true), -1);
        Due.is("siphon 1", x.heard(0, 1, true), -1);
        Due.is("siphon -1", x.heard(0, -1, true), -1);
        Due.promise(22, "suspects");
        Due.is("without basins", new NoonBasins().suspects(), -1);
        Due.is("nothing heard", x.suspects(), 16385);
        Due.is("silent at 46", x.heard(46, 0, false), 1);
        Due.is("suspects()", x.suspects(), 16385);
        Due.is("silent at 44", x.heard(44, 0, false), 2);
        Due.is("it would have played", x.suspects(), 1);
        x.heard(47, 0, true);
        Due.is("can't be", x.suspects(), 0);
        Due.promise(21, "heard");
        for (int i = 4; i <= 20; i++) {
            Due.is("heard", x.heard(0, 0, false), i);
        }
        Due.is("a 21st", x.heard(0, 0, false), -1);
        Due.is("about(8)", x.about(8), 20);
        Due.promise(22, "suspects: one that runs has stopped");
        NoonBasins y = new NoonBasins();
        y.basin(50, 9, 9);
        y.basin(40, 9, 0);
        y.siphon(0, 1, 9, 0, 1, 0);
        y.siphon(1, -1, 3, 0, 9, 0);
        y.ticks(1);
        Due.is("runs", y.of(0, 0), 1);
        y.heard(0, 0, false);
        Due.is("suspects()", y.suspects(), 1);
        Due.is("nothing is changed", y.of(0, 0), 1);
        NoonBasins z = new NoonBasins();
        z.basin(50, 9, 9);
        z.basin(40, 9, 0);
        z.siphon(0, 1, 9, 0, 1, 0);
        z.siphon(1, -1, 3, 0, 9, 0);
        z.heard(3, 1, false);
        Due.is("by what comes down", z.suspects(), 3);
        z.heard(2, 0, true);
        Due.is("and what is above", z.suspects(), 2);
    }

    private static void looking() {
        Due.promise(23, "look");
        Due.is("without basins", new NoonBasins().look(0), -1);
        NoonBasins x = fiveBeat();
        Due.is("look(0)", x.look(0), 4);
        Due.is("look(1)", x.look(1), 0);
        Due.is("look(2)", x.look(2), 1);
        Due.is("look(3)", x.look(3), -1);
        Due.is("look(-1)", x.look(-1), -1);
        x.heard(4, 0, true);
        Due.is("one suspect", x.look(0), -1);
        Due.is("one suspect", x.look(2), -1);
        // Four in a row, each fed by the one above: the second tells two from three.
        NoonBasins y = new NoonBasins();
        for (int i = 0; i < 4; i++) {
            y.basin(90 - i, 9, 0);
        }
        for (int i = 0; i < 4; i++) {
            y.siphon(i, i < 3 ? i + 1 : -1, 1, 0, 1, 0);
        }
        Due.is("suspects()", y.suspects(), 16384 + 15);
        // The second plays from TICK 1 on, if neither it nor the first is broken: 3 of 5.
        Due.is("look(0)", y.look(0), 1);
        Due.is("look(1)", y.look(1), 1);
        Due.is("look(2)", y.look(2), 3);
        NoonBasins z = new NoonBasins();
        z.basin(9, 99, 0);
        z.siphon(0, -1, 25, 0, 1, 0);
        Due.is("beyond TICK 23", z.look(0), -1);
        Due.is("suspects()", z.suspects(), 16385);
    }

    private static void diary() {
        Due.promise(26, "line");
        NoonBasins x = fiveBeat();
        Due.is("TICK -1", x.line(-1, 0, true), -1);
        Due.is("TICK 41", x.line(41, 0, true), -1);
        Due.is("siphon 1", x.line(0, 1, true), -1);
        Due.is("siphon -1", x.line(0, -1, true), -1);
        Due.promise(27, "written");
        Due.is("without basins", new NoonBasins().written(-1), -1);
        Due.is("no lines: any", x.written(-1), 101);
        Due.is("no lines: any", x.written(100), 100);
        Due.is("written(101)", x.written(101), -1);
        Due.is("written(-2)", x.written(-2), -1);
        Due.is("line", x.line(40, 0, true), 1);
        // It plays at 4, 9, ..: 40 TICKS behind 4, 9, .., 99.
        Due.is("how many", x.written(-1), 20);
        Due.is("the first", x.written(0), 4);
        Due.is("the last", x.written(19), 99);
        Due.is("none such", x.written(20), -1);
        Due.is("line", x.line(1, 0, true), 2);
        Due.is("how many", x.written(-1), 0);
        Due.is("none such", x.written(0), -1);
        Due.promise(26, "line");
        for (int i = 3; i <= 12; i++) {
            Due.is("line", x.line(0, 0, true), i);
        }
        Due.is("a 13th", x.line(0, 0, true), -1);
        Due.is("about(9)", x.about(9), 12);
        Due.promise(27, "written");
        NoonBasins y = fiveBeat();
        y.ticks(1);
        y.line(0, 0, true);
        y.line(1, 0, false);
        Due.is("from now on", y.written(0), 3);
        y.ticks(1);
        Due.is("from now on", y.written(0), 2);
    }
}
