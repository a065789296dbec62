/** Part II of the terms, sentence by sentence: TOKENS, CLAUSES, each FAULT and its place, what laws say. */
public final class FaultEdgesTest {
    private static final int NONE = NoonBasins.NONE;
    private static final String[] NAMES = {"hour", "day", "bore", "clog", "level", "fall", "room", "height"};

    public static void main(String[] args) {
        everyByteFirst();
        everyByteBehindANumber();
        everyByteInAWord();
        blanks();
        words();
        longest();
        numbers();
        lengths();
        clauses();
        once();
        rows();
        sums();
        asks();
        noOtherToken();
        namesOfLaws();
        depthOfEach();
        depthOfMixes();
        depthAgain();
        ofOneTheLeast();
        theFirst();
        steps();
        quotients();
        compared();
        joinedAsks();
        bounds();
        Due.close();
    }

    private static void fault(String text, int fault, int place) {
        NoonBasins x = new NoonBasins();
        Due.is("text() of '" + text + "'", Due.read(x, text), fault == 0 ? 0 : NONE);
        Due.is("fault(0) of '" + text + "'", x.fault(0), fault);
        Due.is("fault(1) of '" + text + "'", x.fault(1), place);
        Due.is("TEXTS behind '" + text + "'", x.about(3), fault == 0 ? 1 : 0);
        Due.is("the tape behind '" + text + "'", x.about(10), 0);
    }

    private static void sound(String text) {
        fault(text, 0, NONE);
    }

    private static boolean isDigit(char c) {
        return c >= '0' && c <= '9';
    }

    private static void everyByteFirst() {
        Due.promise(9, "TOKENS: blanks are 32 and 10 alone");
        for (char c = 0; c < 256; c++) {
            if (c == 32 || c == 10) {
                sound(c + "due 1;");
            } else {
                fault(c + " due 1;", 1, 0);
            }
        }
    }

    private static void everyByteBehindANumber() {
        Due.promise(9, "TOKENS: digits and signs");
        for (char c = 0; c < 256; c++) {
            if (isDigit(c) || c == ' ' || c == '\n') {
                sound("due 1" + c + ";");
            } else {
                boolean goesOn = "+-*/;".indexOf(c) >= 0;
                fault("due 1" + c + ";", 1, goesOn ? 6 : 5);
            }
            if (isDigit(c) || "+-*/".indexOf(c) >= 0) {
                sound("due 1" + c + "1;");
            } else {
                fault("due 1" + c + "1;", 1, c == ' ' || c == '\n' || c == ';' ? 6 : 5);
            }
        }
    }

    private static void everyByteInAWord() {
        Due.promise(9, "TOKENS: letters a .. z, A .. Z one behind the other");
        for (char c = 0; c < 256; c++) {
            boolean letter = c >= 'a' && c <= 'z' || c >= 'A' && c <= 'Z';
            if (letter) {
                fault("due 1;due" + c + " 1;", 1, 6);
                fault("due day" + c + ";", 1, 4);
            } else {
                // Behind a whole word another TOKEN begins, so that the word itself is come to first.
                fault("due 1;due" + c + " 1;", 4, 6);
                boolean can = c == ' ' || c == '\n';
                if (can) {
                    sound("due day" + c + ";");
                } else {
                    fault("due day" + c + ";", 1, "+-*/;".indexOf(c) >= 0 ? 8 : 7);
                }
            }
        }
    }

    private static void blanks() {
        Due.promise(9, "TOKENS: blanks aside");
        sound(" \n due \n\n 1 \n ; \n");
        sound("due\n1;");
        sound("due1;");
        sound("due(1);");
        sound("due if1=1?2:3end;");
        sound("due if 1=1 and1=1 or1=1?2:3end;");
        sound("basin1,2,3;siphon1,2,3,4,5;");
        sound("basin 1 , 2\n,3 ;");
        fault("du e 1;", 1, 0);
        fault("due 1 2;", 1, 6);
        fault("due 1\n2;", 1, 6);
        fault("dueday;", 1, 0);
        fault("due dayday;", 1, 4);
        fault("due 2day;", 1, 5);
    }

    private static void words() {
        Due.promise(9, "FAULT 1: a word that can't stand there");
        for (String word : new String[] {"spring", "flow", "sun", "due", "basin", "siphon", "end", "or", "and", "not"}) {
            fault("due " + word + ";", 1, 4);
            fault("due 1 " + word + ";", 1, 6);
            fault("basin " + word + ",1,1;", 1, 6);
        }
        for (String word : new String[] {"if", "end", "or", "and", "not", "x", "Due", "DUE", "dues", "du", "d", "basins"}) {
            fault(word + " 1;", 1, 0);
            fault("sun 1;" + word + " 1;", 1, 6);
        }
        for (String name : NAMES) {
            fault(name + " 1;", 1, 0);
            fault("sun 1;" + name + ";", 1, 6);
            fault("due 1 " + name + ";", 1, 6);
            fault("basin " + name + ",1,1;", 1, 6);
            fault("siphon 1," + name + ",1,1,1;", 1, 9);
        }
        for (String word : new String[] {"x", "Day", "DAY", "days", "da", "If", "END", "wind"}) {
            fault("due " + word + ";", 1, 4);
            fault("due 1+" + word + ";", 1, 6);
        }
    }

    private static void longest() {
        Due.promise(9, "TOKENS: the longest");
        for (String sign : new String[] {"<", "<=", ">", ">=", "=", "#"}) {
            sound("due if 1" + sign + "2?3:4 end;");
            sound("due if 1 " + sign + " -2?3:4 end;");
        }
        fault("due if 1< =2?3:4 end;", 1, 10);
        fault("due if 1> =2?3:4 end;", 1, 10);
        fault("due if 1<==2?3:4 end;", 1, 10);
        fault("due if 1>==2?3:4 end;", 1, 10);
        fault("due if 1=<2?3:4 end;", 1, 9);
        fault("due if 1=>2?3:4 end;", 1, 9);
        fault("due if 1<>2?3:4 end;", 1, 9);
        fault("due if 1==2?3:4 end;", 1, 9);
        fault("due if 1#=2?3:4 end;", 1, 9);
        fault("due if 1<<2?3:4 end;", 1, 9);
        fault("due 1<", 1, 5);
        fault("due 1<=", 1, 5);
        fault("due if 1<", 1, 9);
        fault("due if 1<=", 1, 10);
    }

    private static void numbers() {
        Due.promise(9, "FAULT 2: a NUMBER above 9999");
        sound("due 0;");
        sound("due 0000000;");
        sound("due 9999;");
        fault("due 10000;", 2, 4);
        fault("due  99990;", 2, 5);
        sound("due 0009999;");
        fault("due 00010000;", 2, 4);
        fault("due 2147483648;", 2, 4);
        fault("due 4294967296;", 2, 4);
        fault("due 4294967297;", 2, 4);
        fault("due 18446744073709551617;", 2, 4);
        fault("due 1+10000;", 2, 6);
        fault("due (10000);", 2, 5);
        fault("due -10000;", 2, 5);
        fault("due if 10000", 2, 7);
        Due.promise(9, "FAULT 2: also in basin, siphon");
        for (int i = 0; i < 3; i++) {
            String ahead = "basin " + "1,".repeat(i);
            sound(ahead + "9999" + ",1".repeat(2 - i) + ";");
            fault(ahead + "10000" + ",1".repeat(2 - i) + ";", 2, ahead.length());
        }
        for (int i = 0; i < 5; i++) {
            String ahead = "siphon " + "1,".repeat(i);
            sound(ahead + "9999" + ",1".repeat(4 - i) + ";");
            fault(ahead + "10000" + ",1".repeat(4 - i) + ";", 2, ahead.length());
        }
    }

    private static void lengths() {
        Due.promise(9, "TEXTS: of up to 300 bytes; of the end at the length");
        sound("");
        sound(" ".repeat(300));
        sound("due " + "1".repeat(4) + ";");
        sound("due " + "0".repeat(294) + "1;");
        sound("due " + "1+".repeat(147) + "1;");
        sound(" ".repeat(294) + "due 1;");
        fault(" ".repeat(295) + "due 1", 1, 300);
        fault("due 1" + " ".repeat(295), 1, 300);
        fault("due " + "1+".repeat(148), 1, 300);
        fault("due " + "0".repeat(296), 1, 300);
        fault(" ".repeat(297) + "due", 1, 300);
        fault(" ".repeat(299) + ";", 1, 299);
        fault("d".repeat(300), 1, 0);
        fault(";".repeat(300), 1, 0);
        fault("(".repeat(300), 1, 0);
        fault("1".repeat(300), 1, 0);
        sound("sun" + "1+".repeat(147) + "1; ");
        sound("sun" + "1*".repeat(147) + "10;");
        fault("sun" + "1+".repeat(148) + ";", 1, 299);
        fault(" ".repeat(299) + "<", 1, 299);
        fault(" ".repeat(299) + ">", 1, 299);
        fault("due if 1" + " ".repeat(291) + "<", 1, 300);
        fault(" ".repeat(298) + "du", 1, 298);
        fault(" ".repeat(299) + "s", 1, 299);
        fault("due", 1, 3);
        fault("due ", 1, 4);
        fault("due \n", 1, 5);
        fault("due 1", 1, 5);
        fault("due 1 ", 1, 6);
        fault("due 1+", 1, 6);
        fault("due (", 1, 5);
        fault("due -", 1, 5);
        fault("due if", 1, 6);
        fault("due if not", 1, 10);
        fault("due if 1", 1, 8);
        fault("due if 1=1", 1, 10);
        fault("due if 1=1?", 1, 11);
        fault("due if 1=1?1", 1, 12);
        fault("due if 1=1?1:", 1, 13);
        fault("due if 1=1?1:1", 1, 14);
        fault("due if 1=1?1:1 end", 1, 18);
        fault("basin", 1, 5);
        fault("basin 1", 1, 7);
        fault("basin 1,", 1, 8);
        fault("basin 1,2,3", 1, 11);
    }

    private static void clauses() {
        Due.promise(9, "CLAUSE, 20 at most; FAULT 6 the 21st");
        String nineteen = "basin 1,2,3;".repeat(19);
        sound(nineteen);
        sound(nineteen + "basin 1,2,3;");
        sound(nineteen + "siphon 1,2,3,4,5;");
        sound(nineteen + "due 1;");
        fault(nineteen + "due 1;sun 1;", 6, 234);
        fault(nineteen + "due 1;basin 1,2,3;", 6, 234);
        fault(nineteen + "due 1;siphon", 6, 234);
        fault(nineteen + "due 1; \n spring", 6, 237);
        fault(nineteen + "due 1;basin 10000", 6, 234);
        sound("spring 1;flow 1;sun 1;due 1;" + "basin 1,2,3;".repeat(16));
        fault("spring 1;flow 1;sun 1;due 1;" + "basin 1,2,3;".repeat(17), 6, 220);
        sound("siphon 1,2,3,4,5;".repeat(17));
    }

    private static void once() {
        Due.promise(9, "FAULT 4: spring, flow, sun, due each once");
        for (String law : new String[] {"spring", "flow", "sun", "due"}) {
            String clause = law + " 1;";
            sound(clause);
            fault(clause + clause, 4, clause.length());
            fault(clause + law, 4, clause.length());
            fault(clause + " \n" + law + " x", 4, clause.length() + 2);
            fault(clause + "basin 1,2,3;" + clause, 4, clause.length() + 12);
            fault(law + " 0;" + clause, 4, clause.length());
        }
        sound("spring 1;flow 1;sun 1;due 1;");
        sound("due 1;sun 1;flow 1;spring 1;");
        sound("basin 1,2,3;basin 1,2,3;siphon 1,2,3,4,5;siphon 1,2,3,4,5;basin 1,2,3;");
    }

    private static void rows() {
        Due.promise(9, "basin NUMBER , NUMBER , NUMBER ;");
        sound("basin 0,0,0;");
        fault("basin ;", 1, 6);
        fault("basin ,", 1, 6);
        fault("basin 1;", 1, 7);
        fault("basin 1,2;", 1, 9);
        fault("basin 1,2,;", 1, 10);
        fault("basin 1,2,3", 1, 11);
        fault("basin 1,2,3,", 1, 11);
        fault("basin 1,2,3,4;", 1, 11);
        fault("basin 1 2,3;", 1, 8);
        fault("basin 1,,3;", 1, 8);
        fault("basin 1+1,2,3;", 1, 7);
        fault("basin -1,2,3;", 1, 6);
        fault("basin (1),2,3;", 1, 6);
        fault("basin 1,2,3;;", 1, 12);
        Due.promise(9, "siphon NUMBER , NUMBER , NUMBER , NUMBER , NUMBER ;");
        sound("siphon 0,0,0,0,0;");
        fault("siphon ;", 1, 7);
        fault("siphon 1,2,3;", 1, 12);
        fault("siphon 1,2,3,4;", 1, 14);
        fault("siphon 1,2,3,4,;", 1, 15);
        fault("siphon 1,2,3,4,5", 1, 16);
        fault("siphon 1,2,3,4,5,6;", 1, 16);
        fault("siphon 1,-1,3,4,5;", 1, 9);
    }

    private static void sums() {
        Due.promise(9, "SUM, PRODUCT, ONE");
        sound("due 1+2-3+4;");
        sound("due 1*2/3*4;");
        sound("due 1+-2;");
        sound("due 1--2;");
        sound("due 1- - -2;");
        sound("due 1*-2;");
        sound("due -(1);");
        sound("due -if 1=1?2:3 end;");
        sound("due (1)+(2)*(3);");
        fault("due ;", 1, 4);
        fault("due +1;", 1, 4);
        fault("due *1;", 1, 4);
        fault("due 1+;", 1, 6);
        fault("due 1++2;", 1, 6);
        fault("due 1*/2;", 1, 6);
        fault("due 1-*2;", 1, 6);
        fault("due -;", 1, 5);
        fault("due -+1;", 1, 5);
        fault("due ();", 1, 5);
        fault("due (1;", 1, 6);
        fault("due (1));", 1, 7);
        fault("due )1(;", 1, 4);
        fault("due (1)(2);", 1, 7);
        fault("due 1(2);", 1, 5);
        fault("due 1,2;", 1, 5);
        fault("due 1:2;", 1, 5);
        fault("due 1?2:3;", 1, 5);
    }

    private static void asks() {
        Due.promise(9, "if EITHER ? SUM : SUM end");
        sound("due if 1=1?1:1 end;");
        sound("due if not 1=1?1:1 end;");
        sound("due if 1=1 or 1=1 and not not 1=1 or 1=1?1:1 end;");
        sound("due if 1+1=1*1?1-1:1/1 end+1;");
        sound("due if (1)=(1)?(1):(1)end;");
        sound("due if if 1=1?1:1 end=1?1:1 end;");
        sound("due if 1=1?if 1=1?1:1 end:if 1=1?1:1 end end;");
        fault("due if ?1:1 end;", 1, 7);
        fault("due if 1?1:1 end;", 1, 8);
        fault("due if 1=?1:1 end;", 1, 9);
        fault("due if =1?1:1 end;", 1, 7);
        fault("due if 1=1=1?1:1 end;", 1, 10);
        fault("due if (1=1)?1:1 end;", 1, 9);
        fault("due if not (1=1)?1:1 end;", 1, 13);
        fault("due if not?1:1 end;", 1, 10);
        fault("due if 1 not=1?1:1 end;", 1, 9);
        fault("due if 1=not 1?1:1 end;", 1, 9);
        fault("due if 1=1 and?1:1 end;", 1, 14);
        fault("due if 1=1 or?1:1 end;", 1, 13);
        fault("due if and 1=1?1:1 end;", 1, 7);
        fault("due if 1=1 1=1?1:1 end;", 1, 11);
        fault("due if 1=1 or and 1=1?1:1 end;", 1, 14);
        fault("due if 1=1?:1 end;", 1, 11);
        fault("due if 1=1?1 end;", 1, 13);
        fault("due if 1=1?1: end;", 1, 14);
        fault("due if 1=1?1:1;", 1, 14);
        fault("due if 1=1?1:1 end end;", 1, 19);
        fault("due if 1=1:1?1 end;", 1, 10);
        fault("due if 1=1?1=1:1 end;", 1, 12);
        fault("due if 1=1?1:1=1 end;", 1, 14);
        fault("due 1=1;", 1, 5);
        fault("due not 1=1;", 1, 4);
    }

    /** Where just one TOKEN can stand, no other one can; more of a SUM aside, which goes on ahead of it. */
    private static void noOtherToken() {
        Due.promise(9, "FAULT 1: it can't stand there");
        String[] tokens = {"<=", ">=", "<", ">", "=", "#", "+", "-", "*", "/", "(", ")", ",", ";", "?", ":",
            "1", "day", "x", "if", "end", "or", "and", "not", "due", "!"};
        String[][] parts = {
            {"due (1", ")", ";"}, {"due 1", ";", ""}, {"due if 1=1", "?", "1:1 end;"},
            {"due if 1=1?1", ":", "1 end;"}, {"due if 1=1?1:1", "end", ";"}, {"basin 1", ",", "2,3;"},
            {"basin 1,2", ",", "3;"}, {"basin 1,2,3", ";", ""}, {"siphon 1,2,3,4", ",", "5;"},
        };
        for (String[] part : parts) {
            for (String token : tokens) {
                boolean joins = part[0].startsWith("due") && "+-*/".contains(token)
                        || part[0].endsWith("=1") && (token.equals("or") || token.equals("and"));
                if (token.equals(part[1])) {
                    sound(part[0] + " " + token + " " + part[2]);
                } else if (!joins) {
                    fault(part[0] + " " + token + " " + part[2], 1, part[0].length() + 1);
                }
            }
        }
    }

    private static void namesOfLaws() {
        Due.promise(9, "FAULT 5: a NAME that isn't of that CLAUSE");
        String[] laws = {"spring", "due", "flow", "sun"};
        String[] own = {" hour day ", " day ", " hour day bore clog level fall ", " hour day level room height "};
        for (int i = 0; i < laws.length; i++) {
            for (String name : NAMES) {
                boolean can = own[i].contains(" " + name + " ");
                int place = laws[i].length() + 1;
                fault(laws[i] + " " + name + ";", can ? 0 : 5, can ? NONE : place);
                fault(laws[i] + " 1*" + name + ";", can ? 0 : 5, can ? NONE : place + 2);
                fault(laws[i] + " (" + name + ");", can ? 0 : 5, can ? NONE : place + 1);
                fault(laws[i] + " -" + name + ";", can ? 0 : 5, can ? NONE : place + 1);
                fault(laws[i] + " if " + name + "=1?1:1 end;", can ? 0 : 5, can ? NONE : place + 3);
                fault(laws[i] + " if 1=" + name + "?1:1 end;", can ? 0 : 5, can ? NONE : place + 5);
                fault(laws[i] + " if 1=1?1:" + name + " end;", can ? 0 : 5, can ? NONE : place + 9);
            }
        }
        sound("flow level;sun level;spring hour;due day;");
        fault("flow level;spring level;", 5, 18);
    }

    private static void depthOfEach() {
        Due.promise(9, "FAULT 3: the 9th that is open, at it");
        sound("due " + "(".repeat(8) + "1" + ")".repeat(8) + ";");
        fault("due " + "(".repeat(9) + "1" + ")".repeat(9) + ";", 3, 12);
        fault("due " + "(".repeat(9), 3, 12);
        fault("due " + "( ".repeat(20), 3, 20);
        sound("due " + "-".repeat(8) + "1;");
        fault("due " + "-".repeat(9) + "1;", 3, 12);
        fault("due 1" + "-".repeat(10) + "1;", 3, 14);
        sound("due 1" + "-".repeat(9) + "1;");
        sound("due if " + "not ".repeat(7) + "1=1?1:1 end;");
        fault("due if " + "not ".repeat(8) + "1=1?1:1 end;", 3, 35);
        sound("due " + "if 1=1?1:".repeat(8) + "1" + " end".repeat(8) + ";");
        fault("due " + "if 1=1?1:".repeat(9), 3, 76);
        sound("due " + "if 1=1?".repeat(8) + "1" + ":1 end".repeat(8) + ";");
        fault("due " + "if 1=1?".repeat(9), 3, 60);
        sound("due " + "if ".repeat(8) + "1" + "=1?1:1 end".repeat(8) + ";");
        fault("due " + "if ".repeat(9), 3, 28);
    }

    private static void depthOfMixes() {
        Due.promise(9, "FAULT 3: ( not if and - together");
        sound("due (-(-(-(-1))));");
        fault("due (-(-(-(-(1)))));", 3, 12);
        fault("due (-(-(-(--1))));", 3, 12);
        fault("due (-(-(-(-if 1=1?1:1 end))));", 3, 12);
        sound("due if not -(if not -(1)=1?1:1 end)=1?1:1 end;");
        fault("due if not -(if not -((1))=1?1:1 end)=1?1:1 end;", 3, 22);
        fault("due if not -(if not -(-1)=1?1:1 end)=1?1:1 end;", 3, 22);
        fault("due ((((((if not not", 3, 17);
        sound("due ((((((if not 1=1?1:1 end))))));");
        fault("due (((((((if not", 3, 14);
        fault("due ((((((((if", 3, 12);
        Due.promise(9, "FAULT 3: in each part of if");
        String seven = "(((((((1)))))))";
        String eight = "(" + seven + ")";
        sound("due if " + seven + "=1?1:1 end;");
        fault("due if " + eight + "=1?1:1 end;", 3, 14);
        sound("due if 1=" + seven + "?1:1 end;");
        fault("due if 1=" + eight + "?1:1 end;", 3, 16);
        sound("due if 1=1?" + seven + ":1 end;");
        fault("due if 1=1?" + eight + ":1 end;", 3, 18);
        sound("due if 1=1?1:" + seven + " end;");
        fault("due if 1=1?1:" + eight + " end;", 3, 20);
        sound("due if not ((((((1))))))=1?1:1 end;");
        fault("due if not " + seven + "=1?1:1 end;", 3, 17);
        sound("due if not 1=((((((1))))))?1:1 end;");
        fault("due if not 1=" + seven + "?1:1 end;", 3, 19);
    }

    /** What is closed isn't open around what comes behind it, and a - of two sides never is. */
    private static void depthAgain() {
        Due.promise(9, "FAULT 3: just what is open");
        String eight = "((((((((1))))))))";
        sound("due " + eight + "+" + eight + "*" + eight + ";");
        sound("due -1+" + eight + ";");
        sound("due --------1*--------1-" + eight + ";");
        sound("due 1-" + eight + ";");
        sound("due if 1=1?1:1 end+" + eight + ";");
        sound("due 1" + "-1".repeat(30) + ";");
        sound("due if not 1=1 and (((((((1)))))))=1?1:1 end;");
        sound("due if not 1=1 or not ((((((1))))))=1?1:1 end;");
        sound("due " + "(1)+".repeat(20) + "1;");
        sound("due " + eight + ";sun " + eight + ";flow " + eight + ";");
    }

    private static void ofOneTheLeast() {
        Due.promise(9, "FAULTS: of one TOKEN the least");
        fault("10000", 1, 0);
        fault("due 1 10000;", 1, 6);
        fault("basin 1 10000", 1, 8);
        fault("due ((((((((1 (", 1, 14);
        fault("due ((((((((not", 1, 12);
        fault("due ((((((((1 if", 1, 14);
        fault("due ((((((((1 -1))))))))-1;", 0, NONE);
        fault("due 1 due", 1, 6);
        fault("due due", 1, 4);
        fault("due 1;basin due", 1, 12);
        fault("due 1 hour;", 1, 6);
        fault("due if 1 hour=1?1:1 end;", 1, 9);
        fault("due ((((((((hour))))))));", 5, 12);
        fault("due ((((((((10000))))))));", 2, 12);
        String twenty = "due 1;" + "basin 1,2,3;".repeat(19);
        fault(twenty + "due 1;", 4, 234);
        fault(twenty + "sun 1;", 6, 234);
        fault(twenty + "x", 1, 234);
        fault(twenty + ";", 1, 234);
        fault(twenty + "10000", 1, 234);
        fault(twenty + "hour", 1, 234);
        fault(twenty + "!", 1, 234);
        sound(twenty + " \n");
    }

    private static void theFirst() {
        Due.promise(9, "FAULTS: the first as TOKENS are come to");
        fault("due hour+10000;", 5, 4);
        fault("due 10000+hour;", 2, 4);
        fault("due 1!;due 10000;", 1, 5);
        fault("due ((((((((( hour 10000", 3, 12);
        fault("due 1;due hour", 4, 6);
        fault("due hour;due", 5, 4);
        fault("basin 10000,hour", 2, 6);
        fault("basin hour,10000", 1, 6);
    }

    /** A law's number, read off a spring that fills a BASIN of ROOM 99. */
    private static void value(String sum, int due) {
        NoonBasins x = new NoonBasins();
        x.basin(9, 99, 0);
        Due.is("text() of " + sum, Due.read(x, "spring " + sum + ";"), 0);
        x.by(0);
        x.ticks(1);
        Due.is(sum, x.drops(0), due);
    }

    private static void steps() {
        Due.promise(8, "laws: from the left");
        value("9-4-3", 2);
        value("9-4+3", 8);
        value("90/9/2", 5);
        value("90/9*2", 20);
        value("7*5/9", 3);
        value("7/9*5", 0);
        value("1+2*3", 7);
        value("(1+2)*3", 9);
        value("9-(4-3)", 8);
        Due.promise(8, "laws: 1000000 at most, at each step");
        value("999*1001-9999*100-1", 98);
        value("1000*1000-9999*100-1", 99);
        value("1000*1001-9999*100-1", 99);
        value("9999*9999-9999*100-1", 99);
        value("9999*100+99-9999*100-1", 98);
        value("9999*100+100-9999*100-1", 99);
        value("9999*100+101-9999*100-1", 99);
        value("9999*100- -101-9999*100-1", 99);
        value("9999*9999*0+7", 7);
        value("9999*9999*9999*9999/9999-1", 99);
        value("9999*9999+9999-9999-9999*99-9", 91);
        Due.promise(8, "laws: the same less at least, at each step");
        value("-999*1001+9999*100+198", 99);
        value("-1000*1000+9999*100+198", 98);
        value("-1000*1001+9999*100+198", 98);
        value("0-9999*100-99+9999*100+198", 99);
        value("0-9999*100-100+9999*100+198", 98);
        value("0-9999*100-101+9999*100+198", 98);
        value("-9999*100+-101+9999*100+198", 98);
        value("-9999*-9999-9999*100-1", 99);
        value("--9999*9999-9999*100-1", 99);
        value("-(9999*9999)+9999*100+198", 98);
    }

    private static void quotients() {
        Due.promise(8, "laws: / cuts towards 0, by 0 it is 0");
        value("50+7/2", 53);
        value("50+8/2", 54);
        value("50+9/2", 54);
        value("50+(-7)/2", 47);
        value("50+7/-2", 47);
        value("50+(-7)/-2", 53);
        value("50+1/2", 50);
        value("50+(-1)/2", 50);
        value("50+0/5", 50);
        value("50+5/1", 55);
        value("50+5/-1", 45);
        value("50+5/0", 50);
        value("50+0/0", 50);
        value("50+(-5)/0", 50);
        value("50+5/(3-3)", 50);
        value("50+5/0*9", 50);
        value("50+5/(1/2)", 50);
        value("9999*9999/-9999+149", 49);
    }

    private static void compared() {
        Due.promise(8, "laws: < <= > >= = #");
        String[] signs = {"<", "<=", ">", ">=", "=", "#"};
        boolean[] less = {true, true, false, false, false, true};
        boolean[] like = {false, true, false, true, true, false};
        boolean[] more = {false, false, true, true, false, true};
        for (int i = 0; i < 6; i++) {
            value("if 4" + signs[i] + "5?1:2 end", less[i] ? 1 : 2);
            value("if 5" + signs[i] + "5?1:2 end", like[i] ? 1 : 2);
            value("if 6" + signs[i] + "5?1:2 end", more[i] ? 1 : 2);
            value("if -6" + signs[i] + "-5?1:2 end", less[i] ? 1 : 2);
            value("if -1" + signs[i] + "1?1:2 end", less[i] ? 1 : 2);
            for (int left = 4; left <= 6; left++) {
                String ask = left + signs[i] + "5";
                boolean so = left < 5 ? less[i] : left == 5 ? like[i] : more[i];
                value("if not " + ask + "?1:2 end", so ? 2 : 1);
                value("if not not " + ask + "?1:2 end", so ? 1 : 2);
                value("if " + ask + " and 1=1?1:2 end", so ? 1 : 2);
                value("if 1=1 and " + ask + "?1:2 end", so ? 1 : 2);
                value("if " + ask + " or 1=2?1:2 end", so ? 1 : 2);
                value("if " + ask + " and " + ask + "?1:2 end", so ? 1 : 2);
            }
        }
        value("if 9999*9999=9999*9998?1:2 end", 1);
        value("if 9999*100=9999*9998?1:2 end", 2);
    }

    private static void joinedAsks() {
        Due.promise(8, "laws: or, and, not");
        String[] said = {"1=2", "1=1"};
        for (int bits = 0; bits < 8; bits++) {
            boolean a = (bits & 1) != 0;
            boolean b = (bits & 2) != 0;
            boolean c = (bits & 4) != 0;
            String p = said[bits & 1];
            String q = said[bits >> 1 & 1];
            String r = said[bits >> 2 & 1];
            value("if " + p + " or " + q + " and " + r + "?1:2 end", a || b && c ? 1 : 2);
            value("if " + p + " and " + q + " or " + r + "?1:2 end", a && b || c ? 1 : 2);
            value("if " + p + " and " + q + " and " + r + "?1:2 end", a && b && c ? 1 : 2);
            value("if " + p + " or " + q + " or " + r + "?1:2 end", a || b || c ? 1 : 2);
            value("if not " + p + " and " + q + "?1:2 end", !a && b ? 1 : 2);
            value("if not " + p + " or " + q + "?1:2 end", !a || b ? 1 : 2);
            value("if " + p + " or not " + q + " and " + r + "?1:2 end", a || !b && c ? 1 : 2);
        }
        value("10*if 1=1?2+3:7 end-1", 49);
        value("if 1=1?1:2 end+if 1=2?10:20 end", 21);
    }

    private static void bounds() {
        Due.promise(14, "spring: 0 at least, 99 at most");
        value("0-1", 0);
        value("0-1000*1000", 0);
        value("0", 0);
        value("1", 1);
        value("98", 98);
        value("99", 99);
        NoonBasins x = new NoonBasins();
        x.basin(9, 1, 1);
        Due.read(x, "spring 99;");
        Due.read(x, "spring 100;");
        Due.read(x, "spring 9999*9999;");
        for (int i = 0; i < 3; i++) {
            x.by(i);
            Due.is("99 fall over", x.ticks(1), 99);
        }
        x.by(NONE);
        Due.is("without: 1", x.ticks(1), 1);
    }
}
