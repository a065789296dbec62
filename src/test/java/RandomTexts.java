import java.util.ArrayList;
import java.util.List;
import java.util.Random;

/** Texts by chance: most of them sound, some with a wound. */
final class RandomTexts {
    private static final String[] WORDS = {
        "spring", "flow", "sun", "due", "basin", "siphon", "if", "end", "or", "and", "not", "hour",
        "day", "bore", "clog", "level", "fall", "room", "height", "Hour", "x", "<=", ">=", "<", ">", "=",
        "#", "+", "-", "*", "/", "(", ")", ",", ";", "?", ":", "0", "9999", "10000", "00001", "!", "\t", "&",
    };

    private final Random random;
    private String[] names;

    RandomTexts(Random random) {
        this.random = random;
    }

    byte[] next() {
        String text = random.nextInt(12) == 0 ? soup() : random.nextInt(10) == 0 ? deep() : sound();
        if (random.nextInt(3) == 0) {
            text = wounded(text);
        }
        byte[] bytes = text.getBytes(java.nio.charset.StandardCharsets.ISO_8859_1);
        return bytes.length > 300 ? java.util.Arrays.copyOf(bytes, 300) : bytes;
    }

    private String soup() {
        StringBuilder b = new StringBuilder();
        for (int i = random.nextInt(30); i >= 0; i--) {
            b.append(WORDS[random.nextInt(WORDS.length)]).append(random.nextBoolean() ? " " : "");
        }
        return b.toString();
    }

    private String deep() {
        StringBuilder b = new StringBuilder(random.nextBoolean() ? "flow " : "spring ");
        StringBuilder tail = new StringBuilder();
        int deep = 6 + random.nextInt(5);
        for (int i = 0; i < deep; i++) {
            switch (random.nextInt(4)) {
                case 0 -> {
                    b.append("(");
                    tail.insert(0, ")");
                }
                case 1 -> b.append("-");
                case 2 -> {
                    b.append("if ");
                    tail.insert(0, ">0?1:2 end");
                }
                default -> {
                    b.append("if not ");
                    tail.insert(0, "<5?hour:2+3 end");
                }
            }
        }
        return b.append("1").append(tail).append(";").toString();
    }

    private String sound() {
        List<String> clauses = new ArrayList<>();
        if (random.nextInt(3) > 0) {
            names = new String[] {"hour", "day"};
            clauses.add("spring " + sum(random.nextInt(3)));
        }
        if (random.nextInt(3) > 0) {
            names = new String[] {"hour", "day", "bore", "clog", "level", "fall", "bore", "level"};
            clauses.add("flow " + sum(random.nextInt(3)));
        }
        if (random.nextInt(2) > 0) {
            names = new String[] {"hour", "day", "level", "room", "height"};
            clauses.add("sun " + (random.nextBoolean() ? sum(random.nextInt(3)) : "level/" + (3 + random.nextInt(9))));
        }
        if (random.nextInt(2) > 0) {
            names = new String[] {"day"};
            clauses.add("due " + sum(random.nextInt(2)));
        }
        if (random.nextInt(3) == 0) {
            rows(clauses);
        }
        if (random.nextInt(3) == 0) {
            java.util.Collections.shuffle(clauses, random);
        }
        StringBuilder b = new StringBuilder();
        for (String c : clauses) {
            b.append(random.nextInt(5) == 0 ? " " : "").append(c).append(random.nextInt(9) == 0 ? "\n;" : ";");
        }
        return b.toString();
    }

    private void rows(List<String> clauses) {
        int basins = 1 + random.nextInt(4);
        for (int i = 0; i < basins; i++) {
            int room = 1 + random.nextInt(12);
            clauses.add("basin " + (90 - 20 * i + random.nextInt(10)) + "," + room + "," + random.nextInt(room + 1));
        }
        for (int i = random.nextInt(5); i > 0; i--) {
            int to = random.nextInt(3) == 0 ? 99 : random.nextInt(basins);
            clauses.add("siphon " + random.nextInt(basins) + "," + to + "," + (1 + random.nextInt(6)) + ","
                    + random.nextInt(2) + "," + (1 + random.nextInt(9)));
        }
        for (int i = random.nextInt(9) == 0 ? 20 : 0; i > 0; i--) {
            clauses.add("basin 1,2,3");
        }
    }

    private String wounded(String text) {
        if (text.isEmpty()) {
            return "!";
        }
        int at = random.nextInt(text.length());
        return switch (random.nextInt(7)) {
            case 4 -> text + text;
            case 5 -> text.replaceFirst("[0-9]+", "10000");
            case 6 -> text.replaceFirst("[0-9]+", WORDS[11 + random.nextInt(8)]);
            case 0 -> text.substring(0, at);
            case 1 -> text.substring(0, at) + text.substring(at + 1);
            case 2 -> text.substring(0, at) + WORDS[random.nextInt(WORDS.length)] + text.substring(at);
            default -> text.substring(0, at) + (char) random.nextInt(256) + text.substring(at + 1);
        };
    }

    private String sum(int depth) {
        StringBuilder b = new StringBuilder(product(depth));
        for (int i = random.nextInt(3); i > 0; i--) {
            b.append(random.nextBoolean() ? "+" : "-").append(product(depth));
        }
        return b.toString();
    }

    private String product(int depth) {
        StringBuilder b = new StringBuilder(one(depth));
        while (random.nextInt(4) == 0) {
            b.append(random.nextBoolean() ? "*" : "/").append(one(depth));
        }
        return b.toString();
    }

    private String one(int depth) {
        int kind = random.nextInt(depth > 0 ? 8 : 5);
        if (kind < 2) {
            return String.valueOf(random.nextInt(20) == 0 ? random.nextInt(10000) : random.nextInt(7));
        }
        if (kind < 4) {
            return names[random.nextInt(names.length)];
        }
        if (kind == 4) {
            return random.nextBoolean() ? "-2" : "- -3";
        }
        if (kind == 5) {
            return "(" + sum(depth - 1) + ")";
        }
        return "if " + either(depth - 1) + "?" + sum(depth - 1) + ":" + sum(depth - 1) + " end";
    }

    private String either(int depth) {
        StringBuilder b = new StringBuilder(ask(depth));
        while (random.nextInt(3) == 0) {
            b.append(random.nextBoolean() ? " or " : " and ").append(ask(depth));
        }
        return b.toString();
    }

    private String ask(int depth) {
        String[] signs = {"<", "<=", ">", ">=", "=", "#"};
        String not = random.nextInt(4) == 0 ? "not " : "";
        return not + sum(depth) + signs[random.nextInt(6)] + sum(depth);
    }
}
