import java.util.ArrayList;
import java.util.List;
import java.util.Map;
import java.util.Set;

/**
 * A TEXT as the document's part II tells it, by a tree and with Java's whole library: the tests'
 * own view, written apart from the class so that both can be held against one another.
 */
final class PlainText {
    /** What a SUM, or an ASK (1 or 0), says of the NAMES' values. */
    interface Value {
        long of(Map<String, Integer> names);
    }

    record Token(String word, int place, char kind) { }

    static final class Fault extends Exception {
        private static final long serialVersionUID = 1L;
        final int number;
        final int place;

        Fault(int number, int place) {
            this.number = number;
            this.place = place;
        }
    }

    static final Map<String, Set<String>> NAMES = Map.of(
            "spring", Set.of("hour", "day"),
            "due", Set.of("day"),
            "flow", Set.of("hour", "day", "bore", "clog", "level", "fall"),
            "sun", Set.of("hour", "day", "level", "room", "height"));
    static final Set<String> ALL_NAMES =
            Set.of("hour", "day", "bore", "clog", "level", "fall", "room", "height");

    final Map<String, Value> laws = new java.util.HashMap<>();
    /** One row a CLAUSE, with its NUMBERS: 3 of a basin, 5 of a siphon, 0 of a law. */
    final List<int[]> clauses = new ArrayList<>();

    private final List<Token> tokens = new ArrayList<>();
    private int at;
    private String law;

    PlainText(byte[] bytes) throws Fault {
        cut(bytes);
        while (peek().kind != '$') {
            clause();
        }
    }

    private void cut(byte[] bytes) {
        int i = 0;
        while (i < bytes.length) {
            char c = (char) (bytes[i] & 255);
            int from = i;
            if (c == 32 || c == 10) {
                i++;
                continue;
            }
            if (letter(c)) {
                while (i < bytes.length && letter((char) (bytes[i] & 255))) {
                    i++;
                }
                tokens.add(new Token(latin(bytes, from, i), from, 'w'));
            } else if (c >= '0' && c <= '9') {
                while (i < bytes.length && bytes[i] >= '0' && bytes[i] <= '9') {
                    i++;
                }
                tokens.add(new Token(latin(bytes, from, i), from, 'n'));
            } else {
                i++;
                if ((c == '<' || c == '>') && i < bytes.length && bytes[i] == '=') {
                    i++;
                }
                tokens.add(new Token(latin(bytes, from, i), from, "<>=#+-*/(),;?:".indexOf(c) < 0 ? '!' : 's'));
            }
        }
        tokens.add(new Token("", bytes.length, '$'));
    }

    private static boolean letter(char c) {
        return c >= 'a' && c <= 'z' || c >= 'A' && c <= 'Z';
    }

    private static String latin(byte[] bytes, int from, int to) {
        return new String(bytes, from, to - from, java.nio.charset.StandardCharsets.ISO_8859_1);
    }

    private Token peek() {
        return tokens.get(at);
    }

    private boolean sees(String... words) {
        for (String w : words) {
            if (peek().kind != '$' && peek().kind != '!' && peek().word.equals(w)) {
                return true;
            }
        }
        return false;
    }

    private Fault fault(int number) {
        return new Fault(number, peek().place);
    }

    private void expect(String word) throws Fault {
        if (!sees(word)) {
            throw fault(1);
        }
        at++;
    }

    private int number() throws Fault {
        if (peek().kind != 'n') {
            throw fault(1);
        }
        if (new java.math.BigInteger(peek().word).compareTo(java.math.BigInteger.valueOf(9999)) > 0) {
            throw fault(2);
        }
        return Integer.parseInt(tokens.get(at++).word.replaceFirst("^0+(?=.)", ""));
    }

    private void clause() throws Fault {
        if (!sees("spring", "flow", "sun", "due", "basin", "siphon")) {
            throw fault(1);
        }
        String word = peek().word;
        if (laws.containsKey(word)) {
            throw fault(4);
        }
        if (clauses.size() == 20) {
            throw fault(6);
        }
        at++;
        if (word.equals("basin") || word.equals("siphon")) {
            int many = word.equals("basin") ? 3 : 5;
            int[] row = new int[many];
            for (int i = 0; i < many; i++) {
                if (i > 0) {
                    expect(",");
                }
                row[i] = number();
            }
            clauses.add(row);
        } else {
            law = word;
            laws.put(word, sum(0));
            clauses.add(new int[0]);
        }
        expect(";");
    }

    private static long kept(long v) {
        return Math.max(-1000000, Math.min(1000000, v));
    }

    private Value sum(int open) throws Fault {
        Value left = product(open);
        while (sees("+", "-")) {
            boolean plus = tokens.get(at++).word.equals("+");
            Value a = left;
            Value b = product(open);
            left = n -> kept(plus ? a.of(n) + b.of(n) : a.of(n) - b.of(n));
        }
        return left;
    }

    private Value product(int open) throws Fault {
        Value left = one(open);
        while (sees("*", "/")) {
            boolean times = tokens.get(at++).word.equals("*");
            Value a = left;
            Value b = one(open);
            left = n -> {
                long x = a.of(n);
                long y = b.of(n);
                return kept(times ? x * y : y == 0 ? 0 : x / y);
            };
        }
        return left;
    }

    private Value one(int open) throws Fault {
        if (peek().kind == 'n') {
            int v = number();
            return n -> v;
        }
        if (peek().kind == 'w' && ALL_NAMES.contains(peek().word)) {
            if (!NAMES.get(law).contains(peek().word)) {
                throw fault(5);
            }
            String name = tokens.get(at++).word;
            return n -> n.get(name);
        }
        if (!sees("(", "-", "if")) {
            throw fault(1);
        }
        if (open == 8) {
            throw fault(3);
        }
        String word = tokens.get(at++).word;
        if (word.equals("(")) {
            Value v = sum(open + 1);
            expect(")");
            return v;
        }
        if (word.equals("-")) {
            Value v = one(open + 1);
            return n -> -v.of(n);
        }
        Value asked = either(open + 1);
        expect("?");
        Value yes = sum(open + 1);
        expect(":");
        Value no = sum(open + 1);
        expect("end");
        return n -> asked.of(n) != 0 ? yes.of(n) : no.of(n);
    }

    private Value either(int open) throws Fault {
        Value left = both(open);
        while (sees("or")) {
            at++;
            Value a = left;
            Value b = both(open);
            left = n -> a.of(n) + b.of(n) > 0 ? 1 : 0;
        }
        return left;
    }

    private Value both(int open) throws Fault {
        Value left = ask(open);
        while (sees("and")) {
            at++;
            Value a = left;
            Value b = ask(open);
            left = n -> a.of(n) * b.of(n);
        }
        return left;
    }

    private Value ask(int open) throws Fault {
        if (sees("not")) {
            if (open == 8) {
                throw fault(3);
            }
            at++;
            Value v = ask(open + 1);
            return n -> v.of(n) == 0 ? 1 : 0;
        }
        Value a = sum(open);
        if (!sees("<", "<=", ">", ">=", "=", "#")) {
            throw fault(1);
        }
        String sign = tokens.get(at++).word;
        Value b = sum(open);
        return n -> {
            int c = Long.compare(a.of(n), b.of(n));
            boolean so = switch (sign) {
                case "<" -> c < 0;
                case "<=" -> c <= 0;
                case ">" -> c > 0;
                case ">=" -> c >= 0;
                case "=" -> c == 0;
                default -> c != 0;
            };
            return so ? 1 : 0;
        };
    }
}
