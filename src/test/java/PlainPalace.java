import java.io.ByteArrayOutputStream;
import java.util.ArrayList;
import java.util.Arrays;
import java.util.HashMap;
import java.util.List;
import java.util.Map;

/**
 * The document read word for word: every answer is worked anew, nothing is kept or skipped. It has
 * the face of NoonBasins, so that a run of calls can be held against it.
 */
final class PlainPalace {
    static final int NONE = -1;

    static final class Basin {
        int height;
        int room;
        int drops;
    }

    static final class Siphon {
        int from;
        int to;
        int crest;
        int bare;
        int bore;
        int rest;
        int clog;
        boolean open = true;
        boolean runs;
        int rests;
        boolean broken;
    }

    static final class All {
        List<Basin> basins = new ArrayList<>();
        List<Siphon> siphons = new ArrayList<>();
        List<PlainText> texts = new ArrayList<>();
        int ruling = NONE;
        int tick;
        int village;
        int today;
        /** What THE VILLAGE had of the latest DAY that ended. */
        int ended;
        List<int[]> wants = new ArrayList<>();
        List<int[]> heard = new ArrayList<>();
        List<int[]> lines = new ArrayList<>();

        All copy() {
            All a = new All();
            for (Basin b : basins) {
                Basin c = new Basin();
                c.height = b.height;
                c.room = b.room;
                c.drops = b.drops;
                a.basins.add(c);
            }
            for (Siphon s : siphons) {
                Siphon c = new Siphon();
                c.from = s.from;
                c.to = s.to;
                c.crest = s.crest;
                c.bare = s.bare;
                c.bore = s.bore;
                c.rest = s.rest;
                c.clog = s.clog;
                c.open = s.open;
                c.runs = s.runs;
                c.rests = s.rests;
                c.broken = s.broken;
                a.siphons.add(c);
            }
            a.texts.addAll(texts);
            a.ruling = ruling;
            a.tick = tick;
            a.village = village;
            a.today = today;
            a.wants.addAll(wants);
            a.heard.addAll(heard);
            a.lines.addAll(lines);
            return a;
        }

        long law(String law, Map<String, Integer> names, long low, long high, long without) {
            PlainText.Value v = ruling == NONE ? null : texts.get(ruling).laws.get(law);
            return v == null ? without : Math.max(low, Math.min(high, v.of(names)));
        }

        /** One TICK; which PLAY. */
        int step() {
            Map<String, Integer> names = new HashMap<>();
            names.put("hour", tick % 24);
            names.put("day", tick / 24);
            basins.get(0).drops += law("spring", names, 0, 99, 1);
            List<Siphon> stopped = new ArrayList<>();
            for (Siphon s : siphons) {
                int has = basins.get(s.from).drops;
                if (!s.runs) {
                    if (s.open && s.rests == 0 && has >= s.crest && !s.broken) {
                        s.runs = true;
                    }
                } else if (!s.open || has <= s.bare) {
                    s.runs = false;
                    stopped.add(s);
                }
            }
            int plays = 0;
            for (int i = 0; i < siphons.size(); i++) {
                Siphon s = siphons.get(i);
                if (s.runs) {
                    plays |= 1 << i;
                    carry(s, names, stopped);
                }
            }
            for (Basin b : basins) {
                if (b.drops > b.room) {
                    village += b.drops - b.room;
                    today += b.drops - b.room;
                    b.drops = b.room;
                }
            }
            for (Basin b : basins) {
                names.put("level", b.drops);
                names.put("room", b.room);
                names.put("height", b.height);
                b.drops -= law("sun", names, 0, b.drops, 0);
            }
            for (Siphon s : siphons) {
                if (s.rests > 0) {
                    s.rests--;
                }
                if (stopped.contains(s)) {
                    s.rests = s.rest;
                }
            }
            tick++;
            if (tick % 24 == 0) {
                ended = today;
                today = 0;
            }
            return plays;
        }

        private void carry(Siphon s, Map<String, Integer> names, List<Siphon> stopped) {
            Basin from = basins.get(s.from);
            names.put("bore", s.bore);
            names.put("clog", s.clog);
            names.put("level", from.drops);
            names.put("fall", from.height - (s.to == NONE ? 0 : basins.get(s.to).height));
            int flow = (int) law("flow", names, 0, 99, Math.max(0, s.bore - s.clog));
            flow = Math.min(flow, Math.max(0, from.drops - s.bare));
            from.drops -= flow;
            if (s.to == NONE) {
                village += flow;
                today += flow;
            } else {
                basins.get(s.to).drops += flow;
            }
            if (from.drops <= s.bare) {
                s.runs = false;
                stopped.add(s);
            }
        }

        String state() {
            StringBuilder b = new StringBuilder();
            for (Basin x : basins) {
                b.append(x.drops).append(' ');
            }
            for (Siphon s : siphons) {
                b.append(s.runs).append(s.rests).append(' ');
            }
            return b.append(tick % 24).toString();
        }
    }

    All now = new All();
    private All kept = new All();
    private byte[] tape = new byte[0];
    private int fault = NONE;
    private int place = NONE;

    private static boolean in(int v, int low, int high) {
        return v >= low && v <= high;
    }

    private boolean isSiphon(int s) {
        return in(s, 0, now.siphons.size() - 1);
    }

    private boolean isBasin(int b) {
        return in(b, 0, now.basins.size() - 1);
    }

    public int basin(int height, int room, int drops) {
        if (now.basins.size() == 10 || !in(height, 0, 99) || !in(room, 1, 99) || !in(drops, 0, room)) {
            return NONE;
        }
        Basin b = new Basin();
        b.height = height;
        b.room = room;
        b.drops = drops;
        now.basins.add(b);
        return now.basins.size() - 1;
    }

    public int siphon(int from, int to, int crest, int bare, int bore, int rest) {
        if (now.siphons.size() == 14 || !isBasin(from) || to != NONE && !isBasin(to)) {
            return NONE;
        }
        if (to != NONE && now.basins.get(to).height >= now.basins.get(from).height) {
            return NONE;
        }
        if (!in(crest, 1, now.basins.get(from).room) || !in(bare, 0, crest - 1) || !in(bore, 1, 9) || !in(rest, 0, 9)) {
            return NONE;
        }
        Siphon s = new Siphon();
        s.from = from;
        s.to = to;
        s.crest = crest;
        s.bare = bare;
        s.bore = bore;
        s.rest = rest;
        now.siphons.add(s);
        return now.siphons.size() - 1;
    }

    public boolean clog(int siphon, int v) {
        if (!isSiphon(siphon) || !in(v, 0, 9)) {
            return false;
        }
        now.siphons.get(siphon).clog = v;
        return true;
    }

    public boolean cock(int siphon, boolean open) {
        if (!isSiphon(siphon)) {
            return false;
        }
        now.siphons.get(siphon).open = open;
        return true;
    }

    public int feed(int a, int b, int c, int d, int e) {
        if (tape.length + 20 > 300) {
            return NONE;
        }
        ByteArrayOutputStream out = new ByteArrayOutputStream();
        out.writeBytes(tape);
        for (int x : new int[] {a, b, c, d, e}) {
            out.writeBytes(java.nio.ByteBuffer.allocate(4).putInt(x).array());
        }
        tape = out.toByteArray();
        return tape.length;
    }

    public int end(int n) {
        if (!in(n, 0, tape.length)) {
            return NONE;
        }
        tape = Arrays.copyOf(tape, n);
        return n;
    }

    public int text() {
        if (now.texts.size() == 4) {
            return NONE;
        }
        byte[] read = tape;
        tape = new byte[0];
        try {
            now.texts.add(new PlainText(read));
            fault = 0;
            place = NONE;
            return now.texts.size() - 1;
        } catch (PlainText.Fault f) {
            fault = f.number;
            place = f.place;
            return NONE;
        }
    }

    public int fault(int what) {
        return what == 0 ? fault : what == 1 ? place : NONE;
    }

    public boolean by(int text) {
        if (text != NONE && !in(text, 0, now.texts.size() - 1)) {
            return false;
        }
        now.ruling = text;
        return true;
    }

    public int laid(int text) {
        if (!in(text, 0, now.texts.size() - 1)) {
            return -2;
        }
        now.basins.clear();
        now.siphons.clear();
        List<int[]> clauses = now.texts.get(text).clauses;
        for (int i = 0; i < clauses.size(); i++) {
            int[] c = clauses.get(i);
            int got = c.length == 3 ? basin(c[0], c[1], c[2])
                    : c.length == 5 ? siphon(c[0], c[1] == 99 ? NONE : c[1], c[2], c[3], c[4], 0) : 0;
            if (got == NONE) {
                return i;
            }
        }
        return NONE;
    }

    public int drops(int basin) {
        return isBasin(basin) ? now.basins.get(basin).drops : NONE;
    }

    public int of(int siphon, int what) {
        if (!isSiphon(siphon)) {
            return NONE;
        }
        Siphon s = now.siphons.get(siphon);
        return switch (what) {
            case 0 -> s.runs ? 1 : 0;
            case 1 -> s.rests;
            case 2 -> s.open ? 1 : 0;
            case 3 -> s.crest;
            case 4 -> s.bore;
            case 5 -> s.clog;
            default -> NONE;
        };
    }

    public int ticks(int n) {
        if (now.basins.isEmpty() || !in(n, 1, 100) || now.tick + n > 9599) {
            return NONE;
        }
        int had = now.village;
        for (int i = 0; i < n; i++) {
            now.step();
        }
        return now.village - had;
    }

    public int plays(int k) {
        if (now.basins.isEmpty() || !in(k, 0, 400)) {
            return NONE;
        }
        return played(now.copy(), k + 1)[k];
    }

    private static int[] played(All a, int n) {
        int[] row = new int[n];
        for (int i = 0; i < n; i++) {
            row[i] = a.step();
        }
        return row;
    }

    public int round(int what) {
        if (now.basins.isEmpty() || !in(what, 0, 1)) {
            return NONE;
        }
        All a = now.copy();
        List<String> states = new ArrayList<>();
        for (int n = 0; n <= 400; n++) {
            int first = states.indexOf(a.state());
            if (first >= 0) {
                return what == 0 ? first : n - first;
            }
            states.add(a.state());
            a.step();
        }
        return NONE;
    }

    public int want(int kind, int t, int which, int v) {
        if (!in(kind, 0, 3) || !in(t, 0, 23) || now.wants.size() == 8) {
            return NONE;
        }
        if (kind < 2 ? !isSiphon(which) : !isBasin(which) || !in(v, 0, 99)) {
            return NONE;
        }
        now.wants.add(new int[] {kind, t, which, v});
        return now.wants.size();
    }

    /** The first WANT that isn't met, with turns as TICK * 100 + SIPHON. */
    private static int unmet(All from, int... turns) {
        All a = from.copy();
        boolean[] wrong = new boolean[8];
        for (int t = 0; t < 24; t++) {
            for (int turn : turns) {
                if (turn / 100 == t) {
                    a.siphons.get(turn % 100).open ^= true;
                }
            }
            int plays = a.step();
            for (int i = 0; i < a.wants.size(); i++) {
                int[] w = a.wants.get(i);
                if (w[1] == t) {
                    int has = w[0] >= 2 && w[2] < a.basins.size() ? a.basins.get(w[2]).drops : 0;
                    boolean plays1 = (plays >> w[2] & 1) != 0;
                    wrong[i] = !(w[0] == 0 ? plays1 : w[0] == 1 ? !plays1 : w[0] == 2 ? has >= w[3] : has <= w[3]);
                }
            }
        }
        for (int i = 0; i < 8; i++) {
            if (wrong[i]) {
                return i;
            }
        }
        return NONE;
    }

    public int missed() {
        return now.basins.isEmpty() ? NONE : unmet(now);
    }

    public int turnsOf(int what) {
        if (now.basins.isEmpty() || !in(what, 0, 4)) {
            return NONE;
        }
        int[] all = allTurns();
        return what < all.length ? all[what] : NONE;
    }

    int[] allTurns() {
        if (unmet(now) == NONE) {
            return new int[] {0};
        }
        int many = now.siphons.size();
        for (int i = 0; i < 24 * many; i++) {
            if (unmet(now, i / many * 100 + i % many) == NONE) {
                return new int[] {1, i / many, i % many};
            }
        }
        for (int i = 0; i < 24 * many; i++) {
            for (int j = i + 1; j < 24 * many; j++) {
                if (unmet(now, i / many * 100 + i % many, j / many * 100 + j % many) == NONE) {
                    return new int[] {2, i / many, i % many, j / many, j % many};
                }
            }
        }
        return new int[] {NONE};
    }

    public int dig(int texts, int what) {
        if (now.basins.isEmpty() || texts <= 0 || texts >= 1 << now.texts.size() || !in(what, 0, 3)) {
            return NONE;
        }
        return allDug(texts)[what];
    }

    private boolean metWithEach(All a, int texts) {
        for (int i = 0; i < 4; i++) {
            if ((texts >> i & 1) != 0) {
                a.ruling = i;
                if (unmet(a) != NONE) {
                    return false;
                }
            }
        }
        return true;
    }

    int[] allDug(int texts) {
        int[] best = {NONE, NONE, NONE, NONE};
        if (metWithEach(now.copy(), texts)) {
            return best;
        }
        for (int what = 0; what < 3; what++) {
            for (int i = 0; i < (what == 2 ? now.basins : now.siphons).size(); i++) {
                for (int v = 1; v <= 99; v++) {
                    All a = now.copy();
                    int old = change(a, what, i, v);
                    int by = Math.abs(old - v);
                    if (old != NONE && (best[0] == NONE || by < best[0]) && metWithEach(a, texts)) {
                        best = new int[] {by, what, i, v};
                    }
                }
            }
        }
        return best;
    }

    /** The number that was there; NONE if it can't be dug so. */
    private static int change(All a, int what, int i, int v) {
        int old;
        if (what == 0) {
            Siphon s = a.siphons.get(i);
            old = s.bore;
            s.bore = v;
            return v <= 9 ? old : NONE;
        }
        if (what == 1) {
            Siphon s = a.siphons.get(i);
            old = s.crest;
            s.crest = v;
            return in(v, s.bare + 1, a.basins.get(s.from).room) ? old : NONE;
        }
        Basin b = a.basins.get(i);
        old = b.room;
        b.room = v;
        for (Siphon s : a.siphons) {
            if (s.from == i && v < s.crest) {
                return NONE;
            }
        }
        return v >= b.drops ? old : NONE;
    }

    public int heard(int t, int siphon, boolean played) {
        if (!in(t, 0, 47) || !isSiphon(siphon) || now.heard.size() == 20) {
            return NONE;
        }
        now.heard.add(new int[] {t, siphon, played ? 1 : 0});
        return now.heard.size();
    }

    private int[] playedIfBroken(int siphon) {
        All a = now.copy();
        if (siphon < a.siphons.size()) {
            a.siphons.get(siphon).broken = true;
            a.siphons.get(siphon).runs = false;
        }
        return played(a, 48);
    }

    public int suspects() {
        if (now.basins.isEmpty()) {
            return NONE;
        }
        int all = 0;
        for (int s = 0; s <= 14; s++) {
            if (s < now.siphons.size() || s == 14) {
                int[] row = playedIfBroken(s);
                boolean so = true;
                for (int[] h : now.heard) {
                    so &= (row[h[0]] >> h[1] & 1) == h[2];
                }
                all |= so ? 1 << s : 0;
            }
        }
        return all;
    }

    public int look(int what) {
        if (now.basins.isEmpty() || !in(what, 0, 2)) {
            return NONE;
        }
        List<int[]> rows = new ArrayList<>();
        int suspects = suspects();
        for (int s = 0; s <= 14; s++) {
            if ((suspects >> s & 1) != 0) {
                rows.add(playedIfBroken(s));
            }
        }
        int[] best = {NONE, NONE, NONE};
        for (int t = 0; t < 24; t++) {
            for (int s = 0; s < now.siphons.size(); s++) {
                int playing = 0;
                for (int[] row : rows) {
                    playing += row[t] >> s & 1;
                }
                int greater = Math.max(playing, rows.size() - playing);
                if (greater < rows.size() && (best[2] == NONE || greater < best[2])) {
                    best = new int[] {t, s, greater};
                }
            }
        }
        return best[what];
    }

    public int frost(int n) {
        if (now.basins.isEmpty() || !in(n, 0, 400)) {
            return NONE;
        }
        All a = now.copy();
        played(a, n);
        return wet(a);
    }

    private static int wet(All a) {
        int wet = 0;
        for (int b = 0; b < a.basins.size(); b++) {
            wet |= a.basins.get(b).drops > 0 ? 1 << b : 0;
        }
        return wet;
    }

    public int dry(int basins) {
        if (basins <= 0 || basins >= 1 << now.basins.size()) {
            return NONE;
        }
        All a = now.copy();
        for (int n = 0; n <= 400; n++) {
            if ((wet(a) & basins) == 0) {
                return n;
            }
            a.step();
        }
        return NONE;
    }

    public int line(int j, int siphon, boolean played) {
        if (!in(j, 0, 40) || !isSiphon(siphon) || now.lines.size() == 12) {
            return NONE;
        }
        now.lines.add(new int[] {j, siphon, played ? 1 : 0});
        return now.lines.size();
    }

    public int written(int i) {
        if (now.basins.isEmpty() || i < NONE) {
            return NONE;
        }
        int[] row = played(now.copy(), 141);
        List<Integer> can = new ArrayList<>();
        for (int k = 0; k <= 100; k++) {
            boolean so = true;
            for (int[] l : now.lines) {
                so &= (row[k + l[0]] >> l[1] & 1) == l[2];
            }
            if (so) {
                can.add(k);
            }
        }
        return i == NONE ? can.size() : i < can.size() ? can.get(i) : NONE;
    }

    public int shortOf(int day) {
        if (now.basins.isEmpty() || !in(day, 0, 9)) {
            return NONE;
        }
        All a = now.copy();
        int last = now.tick / 24 + day;
        while (a.tick / 24 <= last) {
            a.step();
        }
        return (int) Math.max(0, a.law("due", Map.of("day", last), 0, 9999, 0) - a.ended);
    }

    public int image() {
        kept = now.copy();
        return now.tick;
    }

    public int back() {
        now = kept.copy();
        return now.tick;
    }

    public int about(int what) {
        if (in(what, 20, 29) && isBasin(what - 20)) {
            return now.basins.get(what - 20).height;
        }
        if (in(what, 30, 39) && isBasin(what - 30)) {
            return now.basins.get(what - 30).room;
        }
        return switch (what) {
            case 0 -> now.tick;
            case 1 -> now.basins.size();
            case 2 -> now.siphons.size();
            case 3 -> now.texts.size();
            case 4 -> now.ruling;
            case 5 -> now.village;
            case 6 -> now.today;
            case 7 -> now.wants.size();
            case 8 -> now.heard.size();
            case 9 -> now.lines.size();
            case 10 -> tape.length;
            default -> -2;
        };
    }
}
