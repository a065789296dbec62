/** Promises 29 and 30: all that AN IMAGE holds, and what it doesn't. */
public final class ImageEdgesTest {
    private static final int NONE = NoonBasins.NONE;

    public static void main(String[] args) {
        ticksAnswered();
        allIsSoAgain();
        eachThingAlone();
        tapeAndFaultStay();
        textsOfTheImage();
        imageStays();
        imageAnew();
        countsGoOn();
        Due.close();
    }

    private static void ticksAnswered() {
        Due.promise(29, "image: THE TICK");
        NoonBasins x = new NoonBasins();
        Due.is("image() of a new object", x.image(), 0);
        Due.is("back()", x.back(), 0);
        x.basin(9, 9, 9);
        x.ticks(7);
        Due.is("image()", x.image(), 7);
        x.ticks(5);
        Due.promise(30, "back: THE TICK");
        Due.is("back()", x.back(), 7);
        Due.is("THE TICK", x.about(0), 7);
        NoonBasins y = new NoonBasins();
        y.basin(9, 9, 9);
        while (y.about(0) < 9500) {
            y.ticks(100);
        }
        y.ticks(99);
        Due.is("image() at the end", y.image(), 9599);
        Due.is("ticks(1)", y.ticks(1), NONE);
        Due.is("back()", y.back(), 9599);
        Due.is("ticks(1)", y.ticks(1), NONE);
        NoonBasins z = new NoonBasins();
        z.basin(9, 9, 9);
        z.ticks(50);
        z.image();
        while (z.about(0) < 9550) {
            z.ticks(100);
        }
        Due.is("ticks(50)", z.ticks(50), NONE);
        Due.is("back()", z.back(), 50);
        Due.is("ticks(50)", z.ticks(50), 50);
    }

    /** Whatever comes between, behind back() nothing but the tape and the FAULT tells of it. */
    private static void allIsSoAgain() {
        Due.promise(30, "back: all is so again");
        Twins.Making[] makings = {Twins::rich, Twins::full, Twins::desert, x -> { }};
        for (Twins.Making making : makings) {
            NoonBasins x = new NoonBasins();
            making.of(x);
            x.image();
            NoonBasins y = new NoonBasins();
            making.of(y);
            y.image();
            wreck(y);
            y.back();
            Sight.same("back()", Sight.of(y), Sight.of(x));
        }
    }

    /** Every call that changes something but the tape. */
    private static void wreck(NoonBasins x) {
        x.basin(99, 99, 99);
        x.siphon(0, NONE, 1, 0, 9, 9);
        x.clog(0, 9);
        x.cock(0, false);
        x.want(1, 23, 0, 0);
        x.heard(47, 0, true);
        x.line(40, 0, true);
        x.by(NONE);
        x.ticks(100);
        x.laid(0);
        x.basin(1, 1, 1);
        x.siphon(0, NONE, 1, 0, 9, 9);
        x.want(1, 23, 0, 0);
        x.heard(47, 0, true);
        x.line(40, 0, true);
        x.ticks(100);
    }

    private static NoonBasins imaged() {
        NoonBasins x = new NoonBasins();
        x.basin(50, 9, 9);
        x.siphon(0, NONE, 9, 4, 1, 3);
        Due.read(x, "spring 0;");
        x.by(0);
        x.ticks(1);
        x.image();
        return x;
    }

    private static void eachThingAlone() {
        Due.promise(30, "back: each thing of it");
        NoonBasins x = imaged();
        x.basin(1, 1, 1);
        x.back();
        Due.is("BASINS", x.about(1), 1);
        Due.is("drops(1)", x.drops(1), NONE);
        x.siphon(0, NONE, 1, 0, 1, 0);
        x.back();
        Due.is("SIPHONS", x.about(2), 1);
        x.clog(0, 9);
        x.back();
        Due.is("CLOG", x.of(0, 5), 0);
        x.cock(0, false);
        x.back();
        Due.is("COCK", x.of(0, 2), 1);
        x.cock(0, false);
        x.ticks(1);
        Due.is("RESTS", x.of(0, 1), 3);
        x.back();
        Due.is("RESTS", x.of(0, 1), 0);
        Due.is("RUNS", x.of(0, 0), 1);
        Due.is("DROPS", x.drops(0), 8);
        Due.is("THE VILLAGE", x.about(5), 1);
        Due.is("in this DAY", x.about(6), 1);
        x.ticks(30);
        Due.is("in that DAY", x.about(6), 0);
        x.back();
        Due.is("in this DAY", x.about(6), 1);
        x.by(NONE);
        x.back();
        Due.is("THE TEXT", x.about(4), 0);
        x.want(0, 0, 0, 0);
        x.heard(0, 0, true);
        x.line(0, 0, true);
        x.back();
        Due.is("WANTS", x.about(7), 0);
        Due.is("HEARD", x.about(8), 0);
        Due.is("lines", x.about(9), 0);
        x.laid(0);
        x.basin(1, 2, 0);
        x.back();
        Due.is("HEIGHT", x.about(20), 50);
        Due.is("ROOM", x.about(30), 9);
        Due.is("CREST", x.of(0, 3), 9);
        Due.is("BORE", x.of(0, 4), 1);
        Due.is("plays as it did", x.plays(0), 1);
        Due.is("to BARE as it did", x.ticks(9), 4);
        endsOfSiphons();
    }

    private static void endsOfSiphons() {
        NoonBasins x = new NoonBasins();
        Due.read(x, "spring 0;");
        x.by(0);
        x.basin(50, 9, 9);
        x.basin(40, 9, 9);
        x.basin(30, 9, 0);
        x.siphon(1, 2, 9, 0, 3, 0);
        x.image();
        x.laid(0);
        x.basin(50, 9, 9);
        x.basin(40, 9, 0);
        x.siphon(0, NONE, 9, 0, 3, 0);
        Due.is("to the garden", x.ticks(1), 3);
        x.back();
        Due.is("FROM and TO", x.ticks(1), 0);
        Due.is("not FROM 0", x.drops(0), 9);
        Due.is("FROM 1", x.drops(1), 6);
        Due.is("TO 2", x.drops(2), 3);
    }

    private static void tapeAndFaultStay() {
        Due.promise(29, "image: but the tape and the latest FAULT");
        NoonBasins x = new NoonBasins();
        Due.put(x, "due 123;");
        x.image();
        x.end(0);
        x.back();
        Due.is("an emptied tape stays empty", x.about(10), 0);
        Due.read(x, "due hour;");
        Due.put(x, "due 1;");
        x.back();
        Due.is("the tape stays", x.about(10), 6);
        Due.is("the FAULT stays", x.fault(0), 5);
        Due.is("its place stays", x.fault(1), 4);
        Due.is("text()", x.text(), 0);
        x.back();
        Due.is("no FAULT stays so", x.fault(0), 0);
        Due.is("no place stays so", x.fault(1), NONE);
        Due.is("the TEXT is gone", x.about(3), 0);
        NoonBasins y = new NoonBasins();
        Due.read(y, "due x;");
        y.image();
        Due.read(y, "due 1;");
        y.back();
        Due.is("the latest FAULT isn't the image's", y.fault(0), 0);
    }

    private static void textsOfTheImage() {
        Due.promise(30, "back: TEXTS");
        NoonBasins x = new NoonBasins();
        x.basin(9, 9, 0);
        Due.read(x, "spring 0;due 10;");
        Due.read(x, "spring 0;due 20;");
        x.image();
        Due.read(x, "spring 0;due 30;");
        Due.read(x, "spring 0;due 40;");
        Due.is("by(3)", x.by(3), true);
        Due.is("its due", x.shortOf(0), 40);
        x.back();
        Due.is("TEXTS", x.about(3), 2);
        Due.is("THE TEXT", x.about(4), NONE);
        Due.is("by(2)", x.by(2), false);
        Due.is("laid(2)", x.laid(2), -2);
        Due.is("dig(4, 0)", x.dig(4, 0), NONE);
        Due.is("by(1)", x.by(1), true);
        Due.is("its due", x.shortOf(0), 20);
        Due.is("another one of that number", Due.read(x, "spring 0;due 50;"), 2);
        Due.is("by(2)", x.by(2), true);
        Due.is("its due", x.shortOf(0), 50);
        Due.is("a wrong one", Due.read(x, "spring 0;due 60;;"), NONE);
        Due.is("its due yet", x.shortOf(0), 50);
        x.back();
        x.by(0);
        Due.is("those of the image are as they were", x.shortOf(0), 10);
        Due.read(x, "wrong");
        x.by(1);
        Due.is("those of the image are as they were", x.shortOf(0), 20);
        // Four, back to none, and four again.
        NoonBasins y = new NoonBasins();
        for (int again = 0; again < 2; again++) {
            for (int i = 0; i < 4; i++) {
                Due.is("TEXT " + i, Due.read(y, "due " + i + ";"), i);
            }
            Due.is("a fifth", Due.read(y, "due 4;"), NONE);
            y.back();
            Due.is("TEXTS", y.about(3), 0);
        }
    }

    private static void imageStays() {
        Due.promise(30, "back: THE IMAGE stays");
        NoonBasins x = imaged();
        for (int i = 0; i < 3; i++) {
            x.ticks(3);
            x.basin(1, 1, 1);
            Due.is("back()", x.back(), 1);
            Due.is("DROPS", x.drops(0), 8);
            Due.is("BASINS", x.about(1), 1);
        }
        Due.is("back() twice", x.back(), 1);
        Due.is("DROPS", x.drops(0), 8);
    }

    private static void imageAnew() {
        Due.promise(29, "image: as all is now");
        NoonBasins x = imaged();
        x.ticks(2);
        Due.is("image()", x.image(), 3);
        x.ticks(2);
        Due.is("back()", x.back(), 3);
        Due.is("DROPS", x.drops(0), 6);
        Due.is("nothing is changed by image()", x.image(), 3);
        Due.is("DROPS", x.drops(0), 6);
        x.laid(0);
        Due.is("an image without BASINS", x.image(), 3);
        x.basin(9, 9, 9);
        x.back();
        Due.is("BASINS", x.about(1), 0);
        Due.is("plays(0)", x.plays(0), NONE);
    }

    /** What was full is not so any more: the bounds count what is there now. */
    private static void countsGoOn() {
        Due.promise(30, "back: as many again");
        NoonBasins x = new NoonBasins();
        x.basin(9, 9, 9);
        x.siphon(0, NONE, 9, 0, 1, 0);
        x.image();
        for (int again = 0; again < 2; again++) {
            for (int b = 1; b < 10; b++) {
                Due.is("BASIN " + b, x.basin(9, 9, 9), b);
            }
            Due.is("an eleventh", x.basin(9, 9, 9), NONE);
            for (int s = 1; s < 14; s++) {
                Due.is("SIPHON " + s, x.siphon(9, NONE, 9, 0, 1, 0), s);
            }
            Due.is("a fifteenth", x.siphon(9, NONE, 9, 0, 1, 0), NONE);
            for (int i = 1; i <= 8; i++) {
                Due.is("WANT " + i, x.want(0, 0, 13, 0), i);
            }
            Due.is("a ninth", x.want(0, 0, 13, 0), NONE);
            for (int i = 1; i <= 20; i++) {
                Due.is("HEARD " + i, x.heard(0, 13, true), i);
            }
            Due.is("a 21st", x.heard(0, 13, true), NONE);
            for (int i = 1; i <= 12; i++) {
                Due.is("line " + i, x.line(0, 13, true), i);
            }
            Due.is("a 13th", x.line(0, 13, true), NONE);
            x.back();
        }
    }
}
