/** Promises 6 to 11 and part II of the terms: the tape, texts, their FAULTS and what laws say. */
public final class FaultsTest {
    public static void main(String[] args) {
        tape();
        texts();
        faults();
        depths();
        clauseCounts();
        values();
        names();
        laid();
        Due.close();
    }

    private static void fault(String text, int fault, int place) {
        NoonBasins x = new NoonBasins();
        Due.is("text() of '" + text + "'", Due.read(x, text), fault == 0 ? 0 : -1);
        Due.is("fault(0) of '" + text + "'", x.fault(0), fault);
        Due.is("fault(1) of '" + text + "'", x.fault(1), place);
        Due.is("about(10) behind '" + text + "'", x.about(10), 0);
    }

    private static void tape() {
        Due.promise(6, "feed");
        NoonBasins x = new NoonBasins();
        for (int i = 1; i <= 15; i++) {
            Due.is("feed " + i, x.feed(0x20202020, 0x20202020, 0x20202020, 0x20202020, 0x20202020), 20 * i);
        }
        Due.is("feed beyond 300", x.feed(0, 0, 0, 0, 0), -1);
        Due.is("about(10)", x.about(10), 300);
        Due.promise(7, "end");
        Due.is("end(301)", x.end(301), -1);
        Due.is("end(-1)", x.end(-1), -1);
        Due.is("about(10)", x.about(10), 300);
        Due.is("end(300)", x.end(300), 300);
        Due.is("end(281)", x.end(281), 281);
        Due.is("feed to 301", x.feed(0, 0, 0, 0, 0), -1);
        Due.is("end(280)", x.end(280), 280);
        Due.is("end(281) of 280", x.end(281), -1);
        Due.is("feed to 300", x.feed(0x20202020, 0x20202020, 0x20202020, 0x20202020, 0x20202020), 300);
        Due.is("text() of 300 blanks", x.text(), 0);
        Due.is("end(0)", x.end(0), 0);
        Due.promise(6, "feed");
        // "due " "1;ab": the highest byte of a number comes first.
        x.feed(0x64756520, 0x313b6162, 0xff80007f, 0, 0);
        Due.is("end(6)", x.end(6), 6);
        Due.is("text()", x.text(), 1);
        x.feed(0x64756520, 0x313bff80, 0, 0, 0);
        x.end(7);
        Due.is("text() with byte 255", x.text(), -1);
        Due.is("fault(1)", x.fault(1), 6);
    }

    private static void texts() {
        Due.promise(8, "text");
        NoonBasins x = new NoonBasins();
        Due.is("text() of nothing", x.text(), 0);
        Due.is("fault(0)", x.fault(0), 0);
        Due.is("text() again", x.text(), 1);
        Due.is("text() wrong", Due.read(x, "spring ;"), -1);
        Due.is("the tape behind a fault", x.about(10), 0);
        Due.is("text()", Due.read(x, "spring 1;"), 2);
        Due.is("text()", Due.read(x, "spring 2;"), 3);
        Due.is("about(3)", x.about(3), 4);
        Due.is("a fifth", Due.read(x, "spring 3;"), -1);
        Due.is("the tape stays", x.about(10), 9);
        Due.promise(9, "fault");
        Due.is("fault(0) of the latest that was read", x.fault(0), 0);
        Due.is("a fifth, wrong", Due.read(x, "springs"), -1);
        Due.is("the tape stays", x.about(10), 7);
        Due.is("fault(0) of the latest that was read", x.fault(0), 0);
        Due.is("fault(1)", x.fault(1), -1);
        Due.is("fault(2)", x.fault(2), -1);
        Due.is("fault(-1)", x.fault(-1), -1);
        NoonBasins y = new NoonBasins();
        Due.is("fault(0) ahead of any", y.fault(0), -1);
        Due.is("fault(1) ahead of any", y.fault(1), -1);
        Due.promise(10, "by");
        Due.is("by(0) of none", y.by(0), false);
        Due.is("by(NONE)", y.by(-1), true);
        Due.is("by(-2)", y.by(-2), false);
        Due.is("by(3)", x.by(3), true);
        Due.is("by(4)", x.by(4), false);
        Due.is("about(4)", x.about(4), 3);
        Due.is("by(NONE)", x.by(-1), true);
        Due.is("about(4)", x.about(4), -1);
    }

    private static void faults() {
        Due.promise(9, "fault");
        fault("", 0, -1);
        fault("  \n ", 0, -1);
        fault("spring\n1 ;", 0, -1);
        fault("spring 1", 1, 8);
        fault("spring 1  ", 1, 10);
        fault("spring", 1, 6);
        fault("Spring 1;", 1, 0);
        fault(";", 1, 0);
        fault("5", 1, 0);
        fault("hour", 1, 0);
        fault("if", 1, 0);
        fault("spring 1\t;", 1, 8);
        fault("spring 1;\t", 1, 9);
        fault("spring 1 2;", 1, 9);
        fault("spring 1 level;", 1, 9);
        fault("spring wind;", 1, 7);
        fault("spring spring;", 1, 7);
        fault("spring end;", 1, 7);
        fault("spring 1 +;", 1, 10);
        fault("spring + 1;", 1, 7);
        fault("spring 1 - - 1;", 0, -1);
        fault("spring not 1;", 1, 7);
        fault("spring 1 < 2;", 1, 9);
        fault("spring (1 < 2);", 1, 10);
        fault("spring (1;", 1, 9);
        fault("spring 1);", 1, 8);
        fault("spring if 1 ? 2 : 3 end;", 1, 12);
        fault("spring if (1 = 1) ? 2 : 3 end;", 1, 13);
        fault("spring if 1 < = 2 ? 2 : 3 end;", 1, 14);
        fault("spring if 1 = > 2 ? 2 : 3 end;", 1, 14);
        fault("spring if 1 = 2 = 3 ? 2 : 3 end;", 1, 16);
        fault("spring if 1 = 2 : 3 end;", 1, 16);
        fault("spring if 1 = 2 ? 2 end;", 1, 20);
        fault("spring if 1 = 2 ? 2 : 3;", 1, 23);
        fault("spring if not not 1 # 2 and 1 >= 1 or 1 <= 1 ? 2 : 3 end;", 0, -1);
        fault("spring if 1 = 1 and ? 2 : 3 end;", 1, 20);
        fault("spring if 1 = 1 or ? 2 : 3 end;", 1, 19);
        fault("basin 1,2,3;siphon 1,2,3,4,5;", 0, -1);
        fault("basin 1,2,3,4;", 1, 11);
        fault("basin -1,2,3;", 1, 6);
        fault("basin hour,2,3;", 1, 6);
        fault("basin (1),2,3;", 1, 6);
        fault("siphon 1,2,3,4;", 1, 14);
        fault("spring 9999;", 0, -1);
        fault("spring 10000;", 2, 7);
        fault("spring 00009999;", 0, -1);
        fault("spring 99999999999999999999999;", 2, 7);
        fault("basin 1,2,10000;", 2, 10);
        fault("basin 1 10000;", 1, 8);
        fault("spring 1;flow 1;sun 1;due 1;", 0, -1);
        fault("due 1;spring 1;due 1;", 4, 15);
        fault("flow 1;flow", 4, 7);
        fault("sun fall;", 5, 4);
        fault("sun clog;", 5, 4);
        fault("flow height;", 5, 5);
        fault("spring bore;", 5, 7);
        fault("spring 1 + (2 * room);", 5, 16);
        fault("due if hour = 1 ? 1 : 1 end;", 5, 7);
        fault("(".repeat(300), 1, 0);
        fault("due" + "1+".repeat(148), 1, 299);
        fault("due" + "1+".repeat(147) + "22;", 0, -1);
        fault(" ".repeat(299) + "x", 1, 299);
        fault("spring".repeat(50), 1, 0);
        fault("spring " + "1".repeat(293), 2, 7);
        fault("spring 1<", 1, 8);
    }

    private static void depths() {
        Due.promise(9, "fault 3");
        fault("spring " + "(".repeat(8) + "1" + ")".repeat(8) + ";", 0, -1);
        fault("spring " + "(".repeat(9) + "1" + ")".repeat(9) + ";", 3, 15);
        fault("spring " + "-".repeat(8) + "1;", 0, -1);
        fault("spring " + "-".repeat(9) + "1;", 3, 15);
        fault("spring 1" + "-1".repeat(20) + ";", 0, -1);
        fault("spring (((((((1 - -1))))))) ;", 0, -1);
        fault("spring ((((((((1 - -1)))))))) ;", 3, 19);
        fault("spring if " + "not ".repeat(7) + "1=1?1:2 end;", 0, -1);
        fault("spring if " + "not ".repeat(8) + "1=1?1:2 end;", 3, 38);
        fault("spring if " + "not ".repeat(7) + "(1)=1?1:2 end;", 3, 38);
        fault("spring if " + "not ".repeat(7) + "1=1 and not 1=1 ?(1):-2 end;", 0, -1);
        fault("spring " + "if 1=1?".repeat(8) + "1" + ":2 end".repeat(8) + ";", 0, -1);
        fault("spring " + "if 1=1?".repeat(9) + "1" + ":2 end".repeat(9) + ";", 3, 63);
        fault("spring (-(-(-(-(1)))))-((((((((1))))))));", 3, 15);
    }

    private static void clauseCounts() {
        Due.promise(9, "fault 6");
        String twenty = "basin 1,2,3;".repeat(20);
        fault(twenty, 0, -1);
        fault(twenty + " siphon", 6, 241);
        fault(twenty + "sun", 6, 240);
        fault(twenty + "rain", 1, 240);
        fault("sun 1;" + "basin 1,2,3;".repeat(19) + "sun 2;", 4, 234);
        fault("sun 1;" + "basin 1,2,3;".repeat(19) + "flow 2;", 6, 234);
    }

    /** The spring fills a basin of room 99 in one TICK: so a law's number can be read off. */
    private static int worked(String sum) {
        NoonBasins x = new NoonBasins();
        x.basin(9, 99, 0);
        Due.is("text() of " + sum, Due.read(x, "spring " + sum + ";"), 0);
        x.by(0);
        x.ticks(1);
        return x.drops(0);
    }

    private static void value(String sum, int due) {
        Due.is(sum, worked(sum), due);
    }

    private static void values() {
        Due.promise(8, "text: what laws say");
        value("2+3*4", 14);
        value("20-3-4", 13);
        value("40/4/5", 2);
        value("40/(4/5)", 0);
        value("9-2*3/4", 8);
        value("7/2", 3);
        value("50+(-7)/2", 47);
        value("50+-7/2", 47);
        value("50-7/-2", 53);
        value("-2*-3", 6);
        value("- - -5+9", 4);
        value("5/0+1", 1);
        value("-5", 0);
        value("100", 99);
        value("9999*9999/9999/10", 10);
        value("50-9999*9999*-1/9999/-10", 40);
        value("9999*101-9999*100-95", 5);
        value("9999*100+9999-9999*100-95", 5);
        value("9999*100+100-9999*100-95", 5);
        value("9999*100+99-9999*100-95", 4);
        value("0-9999*100-9999+9999*100+105", 5);
        value("-9999*9999+9999*100+105", 5);
        value("if 1<2?3:4 end", 3);
        value("if 2<2?3:4 end", 4);
        value("if 2<=2?3:4 end", 3);
        value("if 3<=2?3:4 end", 4);
        value("if 2>2?3:4 end", 4);
        value("if 3>2?3:4 end", 3);
        value("if 2>=3?3:4 end", 4);
        value("if 3>=3?3:4 end", 3);
        value("if 2=2?3:4 end", 3);
        value("if 2=3?3:4 end", 4);
        value("if 2#2?3:4 end", 4);
        value("if 2#3?3:4 end", 3);
        value("if not 1=1?3:4 end", 4);
        value("if not not 1=1?3:4 end", 3);
        value("if 1=1 or 1=1 and 1=2?3:4 end", 3);
        value("if 1=2 and 1=1 or 1=1?3:4 end", 3);
        value("if 1=2 and 1=1 or 1=2?3:4 end", 4);
        value("if not 1=2 and 1=2?3:4 end", 4);
        value("if not 1=2 or 1=1?3:4 end", 3);
        value("2*if 1=1?3:4 end+1", 7);
        value("if if 1=1?1:2 end=2?10:if 3>2?20:30 end end", 20);
        value("hour*10+day+5", 5);
    }

    private static void names() {
        Due.promise(14, "ticks: NAMES");
        NoonBasins x = new NoonBasins();
        x.basin(50, 99, 60);
        x.basin(20, 99, 10);
        x.siphon(0, 1, 5, 0, 7, 0);
        x.siphon(1, -1, 9, 0, 8, 0);
        x.clog(0, 3);
        Due.read(x, "spring 0;flow bore*10-clog-level/2-fall;");
        x.by(0);
        // 70 - 3 - 30 - 30 from the first; 80 - 0 - 17 / 2 - 20, at most the 17 that are there.
        Due.is("ticks(1)", x.ticks(1), 17);
        Due.is("drops(0)", x.drops(0), 53);
        Due.is("drops(1)", x.drops(1), 0);
        NoonBasins z = new NoonBasins();
        z.basin(50, 99, 99);
        z.siphon(0, -1, 5, 0, 7, 0);
        Due.read(z, "spring 0;flow fall*100+hour+day-4967;");
        z.by(0);
        Due.is("to the garden all of it", z.ticks(1), 33);
        Due.is("an hour more", z.ticks(1), 34);
        NoonBasins y = new NoonBasins();
        y.basin(31, 40, 40);
        y.basin(3, 20, 9);
        Due.read(y, "spring 0;sun room/10+height/10+level/20+hour+100*day;");
        y.by(0);
        y.ticks(1);
        Due.is("drops(0)", y.drops(0), 40 - 4 - 3 - 2);
        Due.is("drops(1)", y.drops(1), 9 - 2);
        y.ticks(1);
        Due.is("drops(0)", y.drops(0), 31 - 4 - 3 - 1 - 1);
        Due.is("drops(1)", y.drops(1), 7 - 2 - 1);
    }

    private static void laid() {
        Due.promise(11, "laid");
        NoonBasins x = new NoonBasins();
        Due.is("laid(0) of none", x.laid(0), -2);
        Due.read(x, "spring 2;basin 40,9,3;sun 0;siphon 0,99,9,8,9;basin 10,5,0;siphon 0,1,2,0,1;");
        Due.read(x, "basin 40,9,3;siphon 0,1,2,0,1;basin 10,5,0;");
        Due.read(x, "basin 40,9,10;basin 1,1,1;");
        Due.read(x, "due 3;");
        Due.is("laid(NONE)", x.laid(-1), -2);
        Due.is("laid(4)", x.laid(4), -2);
        x.basin(1, 1, 1);
        x.ticks(3);
        int village = x.about(5);
        Due.is("laid(0)", x.laid(0), -1);
        Due.is("basins", x.about(1), 2);
        Due.is("siphons", x.about(2), 2);
        Due.is("THE TICK stays", x.about(0), 3);
        Due.is("THE VILLAGE stays", x.about(5), village);
        Due.is("THE TEXT stays", x.about(4), -1);
        Due.is("height", x.about(21), 10);
        Due.is("room", x.about(30), 9);
        Due.is("drops", x.drops(0), 3);
        Due.is("crest", x.of(0, 3), 9);
        Due.is("bore", x.of(0, 4), 9);
        Due.is("open", x.of(1, 2), 1);
        x.ticks(1);
        Due.is("one to a basin", x.drops(1), 1);
        Due.is("laid(1): a siphon ahead of its basin", x.laid(1), 1);
        Due.is("what was done stays", x.about(1), 1);
        Due.is("and no siphon", x.about(2), 0);
        Due.is("laid(2): more drops than room", x.laid(2), 0);
        Due.is("no basins", x.about(1), 0);
        Due.is("laid(3): laws alone", x.laid(3), -1);
        Due.is("no basins", x.about(1), 0);
        NoonBasins y = new NoonBasins();
        Due.read(y, "basin 1,2,0;".repeat(11));
        Due.is("laid: an eleventh basin", y.laid(0), 10);
        Due.read(y, "basin 9,2,0;" + "siphon 0,99,1,0,1;".repeat(15));
        Due.is("laid: a fifteenth siphon", y.laid(1), 15);
        Due.read(y, "basin 9,9,9;siphon 0,99,5,2,1;");
        Due.is("laid: a siphon", y.laid(2), -1);
        y.ticks(1);
        y.cock(0, false);
        y.ticks(1);
        Due.is("REST is 0", y.of(0, 1), 0);
    }
}
