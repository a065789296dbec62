/** Promises 6 to 11 but for the FAULTS: the tape, TEXTS and what is LAID by them, on either side of each bound. */
public final class TapeEdgesTest {
    private static final int NONE = NoonBasins.NONE;
    private static final int BLANKS = 0x20202020;
    private static final Twins RICH = new Twins(Twins::rich);
    private static final Twins FULL = new Twins(Twins::full);
    private static final Twins DESERT = new Twins(Twins::desert);

    public static void main(String[] args) {
        feeds();
        order();
        ends();
        cutTapes();
        texts();
        fourTexts();
        wrongTexts();
        nothingOfAWrongOne();
        faults();
        rulers();
        laidOthers();
        laidBasins();
        laidSiphons();
        laidCounts();
        laidStays();
        Due.close();
    }

    private static int blanks(NoonBasins x) {
        return x.feed(BLANKS, BLANKS, BLANKS, BLANKS, BLANKS);
    }

    private static void feeds() {
        Due.promise(6, "feed: 300 at most");
        NoonBasins x = new NoonBasins();
        for (int n = 20; n <= 300; n += 20) {
            Due.is("feed to " + n, blanks(x), n);
            Due.is("bytes", x.about(10), n);
        }
        FULL.refuse("feed to 320", NONE, y -> y.feed(1, 2, 3, 4, 5));
        x.end(281);
        Due.is("feed from 281", blanks(x), NONE);
        Due.is("none came", x.about(10), 281);
        x.end(280);
        Due.is("feed from 280", blanks(x), 300);
        x.end(299);
        Due.is("feed from 299", blanks(x), NONE);
        Due.is("none came", x.about(10), 299);
        RICH.take("feed from 7", 27, y -> y.feed(BLANKS, BLANKS, BLANKS, BLANKS, BLANKS));
        DESERT.take("feed without BASINS", 27, y -> y.feed(BLANKS, BLANKS, BLANKS, BLANKS, BLANKS));
    }

    /** Twenty letters of one word, each at its own place: any other order, or a lost one, is FAULT 1. */
    private static void order() {
        Due.promise(6, "feed: the highest of a first, behind the tape");
        NoonBasins x = new NoonBasins();
        Due.read(x, "due 1;");
        x.feed(0x64756520, 0x31323b73, 0x756e2032, 0x3b666c6f, 0x7720333b);
        Due.is("'due 12;sun 2;flow 3;'", x.text(), 1);
        Due.put(x, "due 9");
        Due.is("behind 5 bytes", x.feed(0x393b7375, 0x6e20323b, BLANKS, BLANKS, 0x20202021), 25);
        Due.is("with ! last", x.text(), NONE);
        Due.is("at its place", x.fault(1), 24);
        x.feed(0x21000000, 0, 0, 0, 0);
        x.text();
        Due.is("! first", x.fault(1), 0);
        x.feed(0x0a0a0aff, BLANKS, BLANKS, BLANKS, BLANKS);
        x.text();
        Due.is("byte 255 at 3", x.fault(1), 3);
        x.feed(0x0a0a8020, BLANKS, BLANKS, BLANKS, BLANKS);
        x.text();
        Due.is("byte 128 at 2", x.fault(1), 2);
        x.feed(0x0a0a2020, BLANKS, 0x20200020, BLANKS, BLANKS);
        x.text();
        Due.is("byte 0 at 10", x.fault(1), 10);
    }

    private static void ends() {
        Due.promise(7, "end");
        RICH.refuse("end(MIN)", NONE, x -> x.end(Integer.MIN_VALUE));
        RICH.refuse("end(-1)", NONE, x -> x.end(-1));
        RICH.refuse("end(8) of 7", NONE, x -> x.end(8));
        RICH.refuse("end(300) of 7", NONE, x -> x.end(300));
        RICH.refuse("end(MAX)", NONE, x -> x.end(Integer.MAX_VALUE));
        RICH.refuse("end(7) of 7 is no change", 7, x -> x.end(7));
        RICH.take("end(6) of 7", 6, x -> x.end(6));
        RICH.take("end(0) of 7", 0, x -> x.end(0));
        FULL.refuse("end(301) of 300", NONE, x -> x.end(301));
        FULL.refuse("end(300) of 300 is no change", 300, x -> x.end(300));
        FULL.take("end(299) of 300", 299, x -> x.end(299));
        NoonBasins x = new NoonBasins();
        Due.is("end(0) of an empty tape", x.end(0), 0);
        Due.is("end(1) of an empty tape", x.end(1), NONE);
        Due.is("end(-1) of an empty tape", x.end(-1), NONE);
    }

    /** What was cut off is gone: it doesn't come again, and what is fed next comes behind the rest. */
    private static void cutTapes() {
        Due.promise(7, "end: its first n bytes alone");
        NoonBasins x = new NoonBasins();
        Due.put(x, "due 1;!");
        Due.is("cut", x.end(6), 6);
        Due.is("not so many any more", x.end(7), NONE);
        Due.is("bytes", x.about(10), 6);
        Due.is("text()", x.text(), 0);
        Due.put(x, "spring 0;due 1!!!!");
        x.end(14);
        x.feed(0x373b2020, BLANKS, BLANKS, BLANKS, BLANKS);
        Due.is("'spring 0;due 17;'", x.text(), 1);
        x.basin(5, 5, 0);
        x.by(1);
        Due.is("its due", x.shortOf(0), 17);
    }

    private static void texts() {
        Due.promise(8, "text: the tape is empty then");
        NoonBasins x = new NoonBasins();
        Due.is("an empty tape", x.text(), 0);
        Due.is("TEXTS", x.about(3), 1);
        Due.is("FAULT", x.fault(0), 0);
        Due.is("place", x.fault(1), NONE);
        Due.is("one of 300 bytes", Due.read(x, "due 1;" + " ".repeat(294)), 1);
        Due.is("bytes", x.about(10), 0);
        Due.is("one byte", Due.read(x, "\n"), 2);
        Due.is("bytes", x.about(10), 0);
        Due.is("THE TEXT", x.about(4), NONE);
        RICH.take("text()", 2, NoonBasins::text);
        DESERT.take("text() without BASINS", 1, NoonBasins::text);
    }

    private static void fourTexts() {
        Due.promise(8, "text: there are 4");
        NoonBasins x = new NoonBasins();
        for (int i = 0; i < 4; i++) {
            Due.is("TEXT " + i, Due.read(x, "due " + i + ";"), i);
            Due.is("TEXTS", x.about(3), i + 1);
        }
        Due.put(x, "due 9;");
        Due.is("a fifth", x.text(), NONE);
        Due.is("TEXTS", x.about(3), 4);
        Due.is("the tape stays", x.about(10), 6);
        Due.is("the latest that was read had no FAULT", x.fault(0), 0);
        Due.put(x, "due x;");
        Due.is("a fifth with a FAULT", x.text(), NONE);
        Due.is("the tape stays", x.about(10), 6);
        Due.is("it wasn't read", x.fault(0), 0);
        Due.is("it wasn't read", x.fault(1), NONE);
        FULL.refuse("a fifth", NONE, NoonBasins::text);
        NoonBasins y = new NoonBasins();
        y.basin(5, 5, 0);
        Due.read(y, "due 1;");
        y.image();
        for (int i = 1; i < 4; i++) {
            Due.read(y, "spring " + i + ";");
        }
        Due.put(y, "spring 0;due 5;");
        Due.is("a fifth", y.text(), NONE);
        y.back();
        Due.is("with room for it again", y.text(), 1);
        y.by(1);
        Due.is("it is what the tape had", y.shortOf(0), 5);
    }

    private static void wrongTexts() {
        Due.promise(8, "text: it has a FAULT");
        NoonBasins x = new NoonBasins();
        x.basin(5, 5, 0);
        Due.read(x, "spring 0;due 5;");
        x.by(0);
        Due.is("wrong", Due.read(x, "spring 2;due 7;;"), NONE);
        Due.is("the tape is empty", x.about(10), 0);
        Due.is("TEXTS", x.about(3), 1);
        Due.is("THE TEXT", x.about(4), 0);
        Due.is("THE TEXT rules as it did", x.shortOf(0), 5);
        Due.is("by(1)", x.by(1), false);
        Due.is("laid(1)", x.laid(1), -2);
        Due.is("dig(2, 0)", x.dig(2, 0), NONE);
        Due.is("the next one takes its number", Due.read(x, "sun 1;"), 1);
        x.by(1);
        Due.is("and has nothing of it", x.shortOf(0), 0);
    }

    /** What was read of a text ahead of its FAULT is in no TEXT that comes later, under its number or not. */
    private static void nothingOfAWrongOne() {
        Due.promise(8, "text: nothing of one that has a FAULT");
        NoonBasins x = new NoonBasins();
        Due.read(x, "spring -9+(-9);flow 9;sun 9;due 9;" + "basin 5,5,5;".repeat(16) + "!");
        Due.is("an empty one", Due.read(x, ""), 0);
        Due.is("laid(0)", x.laid(0), NONE);
        Due.is("BASINS", x.about(1), 0);
        x.basin(5, 9, 5);
        x.by(0);
        Due.is("its due is 0", x.shortOf(0), 0);
        x.ticks(1);
        Due.is("its spring is 1, its sun 0", x.drops(0), 6);
        for (int i = 0; i < 5; i++) {
            Due.read(x, "due " + "1+".repeat(140) + "1;;");
        }
        Due.read(x, "spring -1;siphon 0,99,1,0,1;basin 5,5,5;!");
        Due.is("a short one", Due.read(x, "spring 3;basin 7,9,0;"), 1);
        Due.is("laid(1)", x.laid(1), NONE);
        Due.is("BASINS", x.about(1), 1);
        Due.is("SIPHONS", x.about(2), 0);
        Due.is("HEIGHT", x.about(20), 7);
        x.by(1);
        x.ticks(1);
        Due.is("its spring is 3", x.drops(0), 3);
        Due.is("a law behind a law", Due.read(x, "spring 2;sun -level;"), 2);
        x.by(2);
        x.ticks(1);
        Due.is("its spring is 2", x.drops(0), 5);
    }

    private static void faults() {
        Due.promise(9, "fault: ahead of any");
        NoonBasins x = new NoonBasins();
        for (int what : new int[] {-2, -1, 0, 1, 2}) {
            Due.is("fault(" + what + ") of a new object", x.fault(what), NONE);
        }
        Due.put(x, "due x;");
        Due.is("fault(0), a tape being there", x.fault(0), NONE);
        Due.is("fault(1), a tape being there", x.fault(1), NONE);
        Due.promise(9, "fault: of the latest text that was read");
        x.text();
        Due.is("fault(0)", x.fault(0), 1);
        Due.is("fault(1)", x.fault(1), 4);
        Due.is("again", x.fault(0), 1);
        Due.read(x, "due 1;");
        Due.is("fault(0) of the next, without", x.fault(0), 0);
        Due.is("fault(1) of the next, without", x.fault(1), NONE);
        Due.read(x, "!");
        Due.is("fault(1) may be 0", x.fault(1), 0);
        Due.read(x, " ".repeat(299) + "!");
        Due.is("fault(1) may be 299", x.fault(1), 299);
        Due.read(x, "due 1" + " ".repeat(295));
        Due.is("fault(1) may be 300", x.fault(1), 300);
        Due.promise(9, "fault: NONE for others");
        for (int what : new int[] {Integer.MIN_VALUE, -1, 2, Integer.MAX_VALUE}) {
            RICH.refuse("fault(" + what + ")", NONE, y -> y.fault(what));
            FULL.refuse("fault(" + what + ")", NONE, y -> y.fault(what));
        }
        RICH.refuse("fault(0)", 5, y -> y.fault(0));
        RICH.refuse("fault(1)", 4, y -> y.fault(1));
    }

    private static void rulers() {
        Due.promise(10, "by");
        RICH.refuse("by(MIN)", x -> x.by(Integer.MIN_VALUE));
        RICH.refuse("by(-2)", x -> x.by(-2));
        RICH.take("by(NONE)", 1, x -> x.by(NONE) ? 1 : 0);
        RICH.take("by(0)", 1, x -> x.by(0) ? 1 : 0);
        RICH.refuse("by(2) of 2", x -> x.by(2));
        RICH.refuse("by(MAX)", x -> x.by(Integer.MAX_VALUE));
        FULL.take("by(3)", 1, x -> x.by(3) ? 1 : 0);
        FULL.refuse("by(4)", x -> x.by(4));
        NoonBasins x = new NoonBasins();
        Due.is("by(NONE) of a new object", x.by(NONE), true);
        Due.is("by(0) of a new object", x.by(0), false);
        for (int i = 0; i < 4; i++) {
            Due.is("by(" + i + ") ahead of it", x.by(i), false);
            Due.read(x, "spring " + (i + 3) + ";");
            Due.is("by(" + i + ")", x.by(i), true);
            Due.is("THE TEXT", x.about(4), i);
        }
        Due.is("by(4)", x.by(4), false);
        Due.is("THE TEXT", x.about(4), 3);
        x.basin(5, 99, 0);
        x.ticks(1);
        Due.is("the spring of TEXT 3", x.drops(0), 6);
        x.by(0);
        x.ticks(1);
        Due.is("the spring of TEXT 0", x.drops(0), 9);
        x.by(NONE);
        x.ticks(1);
        Due.is("without", x.drops(0), 10);
    }

    private static void laidOthers() {
        Due.promise(11, "laid: -2 for others");
        RICH.refuse("laid(MIN)", -2, x -> x.laid(Integer.MIN_VALUE));
        RICH.refuse("laid(-2)", -2, x -> x.laid(-2));
        RICH.refuse("laid(NONE)", -2, x -> x.laid(NONE));
        RICH.take("laid(1)", NONE, x -> x.laid(1));
        RICH.refuse("laid(2)", -2, x -> x.laid(2));
        RICH.refuse("laid(MAX)", -2, x -> x.laid(Integer.MAX_VALUE));
        FULL.take("laid(3)", NONE, x -> x.laid(3));
        FULL.refuse("laid(4)", -2, x -> x.laid(4));
        Due.is("of a new object", new NoonBasins().laid(0), -2);
    }

    private static void laidIs(String text, int due, int basins, int siphons) {
        NoonBasins x = new NoonBasins();
        x.basin(5, 5, 5);
        x.siphon(0, NONE, 1, 0, 1, 0);
        Due.is("text() of " + text, Due.read(x, text), 0);
        Due.is("laid by " + text, x.laid(0), due);
        Due.is("BASINS by " + text, x.about(1), basins);
        Due.is("SIPHONS by " + text, x.about(2), siphons);
    }

    private static void laidBasins() {
        Due.promise(11, "laid: basin clauses, as by hand");
        laidIs("", NONE, 0, 0);
        laidIs("spring 1;flow 1;sun 1;due 1;", NONE, 0, 0);
        laidIs("basin 0,5,5;", NONE, 1, 0);
        laidIs("basin 99,5,5;", NONE, 1, 0);
        laidIs("basin 100,5,5;", 0, 0, 0);
        laidIs("basin 9999,5,5;", 0, 0, 0);
        laidIs("basin 5,0,0;", 0, 0, 0);
        laidIs("basin 5,1,0;", NONE, 1, 0);
        laidIs("basin 5,99,0;", NONE, 1, 0);
        laidIs("basin 5,100,0;", 0, 0, 0);
        laidIs("basin 5,7,7;", NONE, 1, 0);
        laidIs("basin 5,7,8;", 0, 0, 0);
        laidIs("basin 5,7,9999;", 0, 0, 0);
        laidIs("basin 5,7,7;basin 5,7,8;basin 5,7,7;", 1, 1, 0);
        Due.promise(11, "laid: its number among all CLAUSES");
        laidIs("spring 1;basin 5,7,7;sun 1;basin 5,7,8;basin 5,7,7;", 3, 1, 0);
        laidIs("siphon 0,99,1,0,1;basin 5,7,7;", 0, 0, 0);
        laidIs("due 1;siphon 0,99,1,0,1;basin 5,7,7;", 1, 0, 0);
        NoonBasins x = new NoonBasins();
        Due.read(x, "basin 12,34,21;basin 43,65,0;");
        x.laid(0);
        Due.is("HEIGHT", x.about(20), 12);
        Due.is("ROOM", x.about(30), 34);
        Due.is("DROPS", x.drops(0), 21);
        Due.is("HEIGHT", x.about(21), 43);
        Due.is("ROOM", x.about(31), 65);
        Due.is("DROPS", x.drops(1), 0);
    }

    private static void laidSiphons() {
        Due.promise(11, "laid: siphon clauses, as by hand");
        String two = "basin 9,8,7;basin 8,6,5;";
        laidIs(two + "siphon 0,1,5,2,3;", NONE, 2, 1);
        laidIs(two + "siphon 1,99,5,2,3;", NONE, 2, 1);
        laidIs(two + "siphon 2,99,5,2,3;", 2, 2, 0);
        laidIs(two + "siphon 99,1,5,2,3;", 2, 2, 0);
        laidIs(two + "siphon 0,0,5,2,3;", 2, 2, 0);
        laidIs(two + "siphon 1,0,5,2,3;", 2, 2, 0);
        laidIs(two + "siphon 0,2,5,2,3;", 2, 2, 0);
        laidIs(two + "siphon 0,98,5,2,3;", 2, 2, 0);
        laidIs(two + "siphon 0,100,5,2,3;", 2, 2, 0);
        laidIs(two + "siphon 0,9999,5,2,3;", 2, 2, 0);
        laidIs(two + "siphon 0,1,0,0,3;", 2, 2, 0);
        laidIs(two + "siphon 0,1,1,0,3;", NONE, 2, 1);
        laidIs(two + "siphon 0,1,8,0,3;", NONE, 2, 1);
        laidIs(two + "siphon 0,1,9,0,3;", 2, 2, 0);
        laidIs(two + "siphon 1,99,7,0,3;", 2, 2, 0);
        laidIs(two + "siphon 0,1,5,4,3;", NONE, 2, 1);
        laidIs(two + "siphon 0,1,5,5,3;", 2, 2, 0);
        laidIs(two + "siphon 0,1,5,2,0;", 2, 2, 0);
        laidIs(two + "siphon 0,1,5,2,1;", NONE, 2, 1);
        laidIs(two + "siphon 0,1,5,2,9;", NONE, 2, 1);
        laidIs(two + "siphon 0,1,5,2,10;", 2, 2, 0);
        laidIs("basin 9,8,7;siphon 0,1,5,2,3;basin 8,6,5;", 1, 1, 0);
        laidIs(two + "siphon 0,1,5,2,3;siphon 0,1,5,5,3;siphon 0,1,5,2,3;", 3, 2, 1);
        NoonBasins x = new NoonBasins();
        Due.read(x, "spring 0;basin 9,8,7;basin 8,6,0;siphon 0,1,7,4,2;siphon 1,99,2,1,9;");
        x.by(0);
        x.laid(0);
        Due.is("CREST", x.of(0, 3), 7);
        Due.is("BORE", x.of(0, 4), 2);
        Due.is("plays", x.plays(0), 1);
        Due.is("to a BASIN", x.ticks(1), 0);
        Due.is("DROPS of FROM", x.drops(0), 5);
        Due.is("DROPS of TO", x.drops(1), 2);
        Due.is("to the garden", x.ticks(1), 2);
        Due.is("BARE of the first", x.drops(0), 4);
        Due.is("BARE of the second", x.drops(1), 1);
        Due.is("REST of the first is 0", x.of(0, 1), 0);
        Due.is("REST of the second is 0", x.of(1, 1), 0);
        Due.is("it has stopped", x.of(0, 0), 0);
    }

    private static void laidCounts() {
        Due.promise(11, "laid: as many as there can be");
        laidIs("basin 1,2,0;".repeat(10), NONE, 10, 0);
        laidIs("basin 1,2,0;".repeat(11), 10, 10, 0);
        laidIs("basin 1,2,0;".repeat(20), 10, 10, 0);
        laidIs("basin 9,2,0;".repeat(10) + "siphon 9,99,1,0,1;".repeat(10), NONE, 10, 10);
        laidIs("basin 9,2,0;" + "siphon 0,99,1,0,1;".repeat(14), NONE, 1, 14);
        laidIs("basin 9,2,0;" + "siphon 0,99,1,0,1;".repeat(15), 15, 1, 14);
    }

    private static void laidStays() {
        Due.promise(11, "laid: all else stays");
        NoonBasins x = new NoonBasins();
        Twins.rich(x);
        Due.put(x, "");
        Due.read(x, "basin 9,8,7;siphon 0,99,5,2,3;basin 7,7,8;");
        Due.put(x, "due 77;");
        int[] was = new int[11];
        for (int i = 0; i <= 10; i++) {
            was[i] = x.about(i);
        }
        Due.is("laid(2)", x.laid(2), 2);
        for (int i = 0; i <= 10; i++) {
            Due.is("about(" + i + ")", x.about(i), i == 1 || i == 2 ? 1 : was[i]);
        }
        Due.is("what was there is gone", x.drops(1), NONE);
        Due.is("what was there is gone", x.of(1, 0), NONE);
        Due.is("what was done stays", x.drops(0), 7);
        Due.is("laid(2) again", x.laid(2), 2);
        Due.is("BASINS", x.about(1), 1);
        Due.is("SIPHONS", x.about(2), 1);
        Due.is("one more by hand", x.basin(1, 1, 1), 1);
        Due.is("and from it", x.siphon(1, NONE, 1, 0, 1, 0), 1);
    }
}
