import java.util.Random;

/**
 * Runs of calls by chance, each held against the plain reading of the document. An argument, if
 * there is one, is the number of runs; a second one the first seed.
 */
public final class RandomRunsTest {
    private final long seed;
    private final Random random;
    private final RandomTexts texts;
    private final NoonBasins x = new NoonBasins();
    private final PlainPalace y = new PlainPalace();
    private final StringBuilder told = new StringBuilder();
    private boolean wrong;
    private static int[] turnsSeen = new int[4];
    private static int[] digsSeen = new int[4];
    private static int[] faultsSeen = new int[7];
    private static int looksSeen;
    private static int roundsSeen;

    private RandomRunsTest(long seed) {
        this.seed = seed;
        random = new Random(seed);
        texts = new RandomTexts(random);
    }

    public static void main(String[] args) {
        int runs = args.length > 0 ? Integer.parseInt(args[0]) : 1500;
        long first = args.length > 1 ? Long.parseLong(args[1]) : 1;
        int bad = 0;
        for (long seed = first; seed < first + runs && bad < 3; seed++) {
            RandomRunsTest run = new RandomRunsTest(seed);
            run.go();
            bad += run.wrong ? 1 : 0;
        }
        System.out.println("turns none 0 1 2: " + java.util.Arrays.toString(turnsSeen)
                + ", digs none bore crest room: " + java.util.Arrays.toString(digsSeen)
                + ", faults: " + java.util.Arrays.toString(faultsSeen) + ", looks: " + looksSeen
                + ", rounds: " + roundsSeen);
        if (bad > 0) {
            System.exit(1);
        }
    }

    private int same(String call, int got, int due) {
        told.append(call).append(" -> ").append(due).append('\n');
        if (got != due && !wrong) {
            wrong = true;
            System.out.println("seed " + seed + ":\n" + told + "but answered " + got);
        }
        return due;
    }

    private int same(String call, boolean got, boolean due) {
        return same(call, got ? 1 : 0, due ? 1 : 0);
    }

    /** Below n most times, now and then a number at the edges of what can be. */
    private int some(int n) {
        int kind = random.nextInt(25);
        if (kind == 0) {
            return new int[] {-2, -1, 0, n, n + 1, 99, 100, Integer.MIN_VALUE, Integer.MAX_VALUE}[random.nextInt(9)];
        }
        return n <= 0 ? 0 : random.nextInt(n);
    }

    private void go() {
        build();
        for (int i = random.nextInt(5); i > 0; i--) {
            act(4 + random.nextInt(9));
        }
        same("image()", x.image(), y.image());
        int calls = 60 + random.nextInt(120);
        for (int i = 0; i < calls && !wrong; i++) {
            act(random.nextInt(36));
        }
        view();
    }

    private void build() {
        int basins = 1 + random.nextInt(random.nextInt(8) == 0 ? 12 : 4);
        for (int i = 0; i < basins; i++) {
            int room = 1 + random.nextInt(random.nextInt(6) == 0 ? 99 : 15);
            basin(Math.max(0, 90 - 9 * i + random.nextInt(12)), room, random.nextInt(room + 1));
        }
        int siphons = random.nextInt(random.nextInt(12) == 0 ? 20 : 5);
        for (int i = 0; i < siphons; i++) {
            siphonByChance();
        }
    }

    private void basin(int height, int room, int drops) {
        same("basin(" + height + ", " + room + ", " + drops + ")", x.basin(height, room, drops), y.basin(height, room, drops));
    }

    private void siphonByChance() {
        int basins = Math.max(1, y.about(1));
        int from = some(basins);
        int to = random.nextInt(3) == 0 ? -1 : from + 1 + random.nextInt(basins);
        int room = Math.max(1, y.about(30 + (from & 7)));
        int crest = 1 + some(room);
        int bare = some(Math.max(1, random.nextBoolean() ? crest : 2));
        int bore = 1 + some(9);
        int rest = some(random.nextBoolean() ? 3 : 10);
        same("siphon(" + from + ", " + to + ", " + crest + ", " + bare + ", " + bore + ", " + rest + ")",
                x.siphon(from, to, crest, bare, bore, rest), y.siphon(from, to, crest, bare, bore, rest));
    }

    private void act(int kind) {
        int siphons = y.about(2);
        int basins = y.about(1);
        switch (kind) {
            case 0 -> basin(some(100), 1 + some(99), some(10));
            case 1 -> siphonByChance();
            case 2 -> {
                int s = some(siphons);
                int v = some(10);
                same("clog(" + s + ", " + v + ")", x.clog(s, v), y.clog(s, v));
            }
            case 3 -> {
                int s = some(siphons);
                boolean o = random.nextBoolean();
                same("cock(" + s + ", " + o + ")", x.cock(s, o), y.cock(s, o));
            }
            case 4, 5, 6 -> readText();
            case 7, 8 -> {
                int t = some(y.about(3));
                same("by(" + t + ")", x.by(t), y.by(t));
            }
            case 9 -> {
                if (random.nextInt(3) == 0) {
                    int t = some(y.about(3));
                    same("laid(" + t + ")", x.laid(t), y.laid(t));
                }
            }
            case 10, 11, 12 -> {
                int n = random.nextInt(3) == 0 ? some(101) : 1 + random.nextInt(4);
                same("ticks(" + n + ")", x.ticks(n), y.ticks(n));
            }
            case 13, 14 -> {
                int k = some(random.nextBoolean() ? 20 : 401);
                same("plays(" + k + ")", x.plays(k), y.plays(k));
            }
            case 15 -> {
                int w = some(2);
                roundsSeen += same("round(" + w + ")", x.round(w), y.round(w)) > 0 ? 1 : 0;
            }
            case 16, 17 -> wants();
            case 18 -> same("missed()", x.missed(), y.missed());
            case 19, 20 -> turns();
            case 21, 22 -> digs();
            case 23, 24 -> hear();
            case 25 -> same("suspects()", x.suspects(), y.suspects());
            case 26 -> {
                int w = some(3);
                looksSeen += same("look(" + w + ")", x.look(w), y.look(w)) >= 0 ? 1 : 0;
            }
            case 27 -> {
                int n = some(401);
                same("frost(" + n + ")", x.frost(n), y.frost(n));
            }
            case 28 -> {
                int set = some(1 << Math.min(basins, 10));
                same("dry(" + set + ")", x.dry(set), y.dry(set));
            }
            case 29 -> diary();
            case 30 -> {
                int i = random.nextBoolean() ? -1 : some(20);
                same("written(" + i + ")", x.written(i), y.written(i));
            }
            case 31 -> {
                int d = some(10);
                same("shortOf(" + d + ")", x.shortOf(d), y.shortOf(d));
            }
            case 32 -> {
                if (random.nextInt(3) == 0) {
                    same("image()", x.image(), y.image());
                }
            }
            case 33 -> {
                if (random.nextInt(3) == 0) {
                    same("back()", x.back(), y.back());
                }
            }
            default -> view();
        }
    }

    private void view() {
        for (int i = -1; i < 41 && !wrong; i++) {
            same("about(" + i + ")", x.about(i), y.about(i));
        }
        for (int i = -1; i < 11 && !wrong; i++) {
            same("drops(" + i + ")", x.drops(i), y.drops(i));
        }
        for (int i = -1; i < 15 && !wrong; i++) {
            for (int w = -1; w < 7; w++) {
                same("of(" + i + ", " + w + ")", x.of(i, w), y.of(i, w));
            }
        }
        for (int i = -1; i < 3; i++) {
            same("fault(" + i + ")", x.fault(i), y.fault(i));
        }
    }

    private void readText() {
        byte[] bytes = texts.next();
        byte[] fed = java.util.Arrays.copyOf(bytes, (bytes.length + 19) / 20 * 20);
        same("end(0)", x.end(0), y.end(0));
        java.nio.ByteBuffer buffer = java.nio.ByteBuffer.wrap(fed);
        while (buffer.remaining() > 0) {
            int a = buffer.getInt();
            int b = buffer.getInt();
            int c = buffer.getInt();
            int d = buffer.getInt();
            int e = buffer.getInt();
            same("feed", x.feed(a, b, c, d, e), y.feed(a, b, c, d, e));
        }
        if (random.nextInt(10) == 0) {
            same("feed", x.feed(1, 2, 3, 4, 5), y.feed(1, 2, 3, 4, 5));
        }
        if (random.nextInt(10) == 0) {
            int n = random.nextInt(400) - 20;
            same("end(" + n + ")", x.end(n), y.end(n));
        }
        same("end(" + bytes.length + ")", x.end(bytes.length), y.end(bytes.length));
        String shown = new String(bytes, java.nio.charset.StandardCharsets.ISO_8859_1);
        same("text() of '" + shown + "'", x.text(), y.text());
        int f = same("fault(0)", x.fault(0), y.fault(0));
        same("fault(1)", x.fault(1), y.fault(1));
        same("about(10)", x.about(10), y.about(10));
        if (f >= 0) {
            faultsSeen[f]++;
        }
    }

    /** WANTS as a palace with some turns, or with something dug, meets them: so that there are ways. */
    private void wants() {
        if (random.nextInt(3) > 0) {
            same("back()", x.back(), y.back());
        }
        if (y.about(1) == 0 || random.nextInt(8) == 0) {
            want(some(4), some(24), some(Math.max(y.about(1), y.about(2))), some(100));
            return;
        }
        PlainPalace.All a = y.now.copy();
        int siphons = a.siphons.size();
        if (siphons > 0 && random.nextInt(3) == 0) {
            a.siphons.get(random.nextInt(siphons)).bore = 1 + random.nextInt(9);
        }
        if (siphons > 0 && random.nextInt(3) == 0) {
            PlainPalace.Siphon s = a.siphons.get(random.nextInt(siphons));
            s.crest = s.bare + 1 + random.nextInt(6);
        }
        if (random.nextInt(4) == 0) {
            PlainPalace.Basin b = a.basins.get(random.nextInt(a.basins.size()));
            b.room = Math.min(99, b.room + random.nextInt(5));
        }
        int turns = siphons == 0 ? 0 : random.nextInt(3);
        int[] when = {random.nextInt(10), random.nextInt(24)};
        int asked = 1 + random.nextInt(3);
        for (int t = 0; t < 24; t++) {
            for (int i = 0; i < turns; i++) {
                if (when[i] == t) {
                    a.siphons.get(random.nextInt(siphons)).open ^= true;
                }
            }
            int plays = a.step();
            if (asked > 0 && random.nextInt(8) == 0) {
                asked--;
                wantAsIs(a, t, plays);
            }
        }
        turns();
        digs();
    }

    private void wantAsIs(PlainPalace.All a, int t, int plays) {
        if (!a.siphons.isEmpty() && random.nextInt(3) > 0) {
            int s = random.nextInt(a.siphons.size());
            want((plays >> s & 1) != 0 ? 0 : 1, t, s, some(100));
        } else {
            int b = random.nextInt(a.basins.size());
            want(2 + random.nextInt(2), t, b, a.basins.get(b).drops);
        }
    }

    private void want(int kind, int t, int which, int v) {
        same("want(" + kind + ", " + t + ", " + which + ", " + v + ")", x.want(kind, t, which, v), y.want(kind, t, which, v));
    }

    private void turns() {
        if (y.about(2) > 5) {
            return;
        }
        int[] due = y.about(1) == 0 ? new int[] {-1} : y.allTurns();
        turnsSeen[due[0] + 1]++;
        for (int w = 0; w < 5; w++) {
            same("turnsOf(" + w + ")", x.turnsOf(w), w < due.length ? due[w] : -1);
        }
        int w = some(5);
        if (w < 0 || w > 4) {
            same("turnsOf(" + w + ")", x.turnsOf(w), -1);
        }
    }

    private void digs() {
        int many = y.about(3);
        int set = random.nextInt(15) == 0 ? some(20) : 1 + random.nextInt(1 << Math.max(1, many));
        if (set <= 0 || set >= 1 << many || y.about(1) == 0) {
            same("dig(" + set + ", 0)", x.dig(set, 0), y.dig(set, 0));
            return;
        }
        int[] due = y.allDug(set);
        digsSeen[due[1] + 1]++;
        for (int w = 0; w < 4; w++) {
            same("dig(" + set + ", " + w + ")", x.dig(set, w), due[w]);
        }
        int w = some(4);
        same("dig(" + set + ", " + w + ")", x.dig(set, w), w < 0 || w > 3 ? -1 : due[w]);
    }

    private void hear() {
        int siphons = y.about(2);
        if (siphons == 0 || random.nextInt(8) == 0) {
            heard(some(48), some(siphons), random.nextBoolean());
            return;
        }
        PlainPalace.All a = y.now.copy();
        int broken = random.nextInt(siphons + 1);
        if (broken < siphons) {
            a.siphons.get(broken).broken = true;
            a.siphons.get(broken).runs = false;
        }
        int asked = 1 + random.nextInt(2);
        for (int t = 0; t < 48 && asked > 0; t++) {
            int plays = a.step();
            if (random.nextInt(8) == 0) {
                asked--;
                int s = random.nextInt(siphons);
                heard(t, s, (plays >> s & 1) != 0);
            }
        }
    }

    private void heard(int t, int s, boolean p) {
        same("heard(" + t + ", " + s + ", " + p + ")", x.heard(t, s, p), y.heard(t, s, p));
    }

    private void diary() {
        int j = some(41);
        int s = some(y.about(2));
        boolean p = y.about(1) > 0 && in(j) && s >= 0 ? (y.plays(j + 7) >> s & 1) != 0 : random.nextBoolean();
        same("line(" + j + ", " + s + ", " + p + ")", x.line(j, s, p), y.line(j, s, p));
    }

    private static boolean in(int j) {
        return j >= 0 && j <= 40;
    }
}
