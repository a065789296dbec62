import java.util.Arrays;

/**
 * Basins without a pump: filled by a spring, emptied by siphons. What each call promises stands in
 * DOC.md; README.md says how the class is used.
 */
public final class NoonBasins {
    public static final int NONE = -1;

    private static final int OTHERS = -2;
    private static final int MOST_BASINS = 10;
    private static final int MOST_SIPHONS = 14;
    private static final int MOST_TEXTS = 4;
    private static final int MOST_BYTES = 300;
    private static final int FED_BYTES = 20;
    private static final int MOST_CLAUSES = 20;
    private static final int MOST_NUMBERS = 5;
    private static final int MOST_WANTS = 8;
    private static final int MOST_HEARD = 20;
    private static final int MOST_LINES = 12;
    private static final int MOST_AT_ONCE = 100;
    private static final int LAST_TICK = 9599;
    private static final int HOURS = 24;
    private static final int FAR = 400;
    private static final int HEARD_TICKS = 48;
    private static final int LAST_BEGINNING = 100;
    private static final int LAST_LINE_TICK = 40;
    private static final int LAST_SHORT_DAY = 9;
    private static final int GARDEN_IN_TEXTS = 99;
    private static final int BROKEN_NONE = MOST_SIPHONS;

    // KINDS of notes.
    private static final int PLAYS_THEN = 0;
    private static final int SILENT_THEN = 1;
    private static final int HAS_OR_MORE = 2;
    private static final int HAS_OR_LESS = 3;

    // The laws of a text, and behind them the other words that begin a CLAUSE.
    private static final int SPRING = 0;
    private static final int FLOW = 1;
    private static final int SUN = 2;
    private static final int DUE = 3;
    private static final int LAWS = 4;
    private static final int BASIN_ROW = 4;
    private static final int SIPHON_ROW = 5;

    // NAMES, by which laws ask.
    private static final int HOUR = 0;
    private static final int DAY = 1;
    private static final int BORE = 2;
    private static final int CLOG = 3;
    private static final int LEVEL = 4;
    private static final int FALL = 5;
    private static final int ROOM = 6;
    private static final int HEIGHT = 7;
    private static final int NAMES = 8;
    private static final int[] NAMES_OF_LAW = {
        1 << HOUR | 1 << DAY,
        1 << HOUR | 1 << DAY | 1 << BORE | 1 << CLOG | 1 << LEVEL | 1 << FALL,
        1 << HOUR | 1 << DAY | 1 << LEVEL | 1 << ROOM | 1 << HEIGHT,
        1 << DAY,
    };

    // Steps of a worked law; a sign that joins two sides is the same number as TOKEN and as step.
    private static final int PUSH = 0;
    private static final int NAME = 1;
    private static final int JUMP = 2;
    private static final int UNLESS = 3;
    private static final int NEGATE = 4;
    private static final int NOT = 5;
    private static final int PLUS = 6;
    private static final int MINUS = 7;
    private static final int TIMES = 8;
    private static final int PARTED = 9;
    private static final int LESS = 10;
    private static final int AT_MOST = 11;
    private static final int MORE = 12;
    private static final int AT_LEAST = 13;
    private static final int ALIKE = 14;
    private static final int UNLIKE = 15;
    private static final int AND = 16;
    private static final int OR = 17;
    private static final int STEP_BITS = 5;
    private static final int STEP_MASK = 31;

    // TOKENS that are no step.
    private static final int OPENS = 18;
    private static final int CLOSES = 19;
    private static final int COMMA = 20;
    private static final int SEMICOLON = 21;
    private static final int ASKED = 22;
    private static final int COLON = 23;
    private static final int NUMBER = 24;
    private static final int TAPE_ENDS = 25;
    private static final int STRANGE = 26;

    // TOKENS that are words: their places in this row are those of the laws and of the NAMES.
    private static final String WORDS =
            "spring flow sun due basin siphon hour day bore clog level fall room height if end or and not ";
    private static final int FIRST_WORD = 32;
    private static final int FIRST_NAME = 38;
    private static final int IF = 46;
    private static final int END = 47;
    private static final int OR_WORD = 48;
    private static final int AND_WORD = 49;
    private static final int NOT_WORD = 50;

    private static final int LARGEST_NUMBER = 9999;
    private static final int LARGEST_SUM = 1000000;
    private static final int DEEPEST = 8;

    private static final int CANT_STAND = 1;
    private static final int TOO_LARGE = 2;
    private static final int TOO_DEEP = 3;
    private static final int TWICE = 4;
    private static final int WRONG_NAME = 5;
    private static final int TOO_MANY = 6;

    private final Palace now = new Palace();
    private final Palace kept = new Palace();
    private final Text[] texts = new Text[MOST_TEXTS];
    private final Reader reader;
    private final Engine engine = new Engine(now.works);
    private final Film film = new Film(now, engine);
    private final Turning turning = new Turning(now, engine);
    private final Digging digging = new Digging(now, engine, texts);
    private final Hearing hearing = new Hearing(now, engine);

    public NoonBasins() {
        for (int i = 0; i < MOST_TEXTS; i++) {
            texts[i] = new Text();
        }
        reader = new Reader(texts[0]);
    }

    public int basin(int height, int room, int drops) {
        waterChanges();
        return now.addBasin(height, room, drops);
    }

    public int siphon(int from, int to, int crest, int bare, int bore, int rest) {
        waterChanges();
        return now.addSiphon(from, to, crest, bare, bore, rest);
    }

    public boolean clog(int siphon, int v) {
        if (!now.works.hasSiphon(siphon) || !isWithin(v, 0, 9)) {
            return false;
        }
        waterChanges();
        now.works.clog[siphon] = v;
        return true;
    }

    public boolean cock(int siphon, boolean open) {
        if (!now.works.hasSiphon(siphon)) {
            return false;
        }
        waterChanges();
        int bit = 1 << siphon;
        now.water.open = open ? now.water.open | bit : now.water.open & ~bit;
        return true;
    }

    public int feed(int a, int b, int c, int d, int e) {
        if (reader.size + FED_BYTES > MOST_BYTES) {
            return NONE;
        }
        reader.take(a);
        reader.take(b);
        reader.take(c);
        reader.take(d);
        reader.take(e);
        return reader.size;
    }

    public int end(int n) {
        if (!isWithin(n, 0, reader.size)) {
            return NONE;
        }
        reader.size = n;
        return n;
    }

    public int text() {
        if (now.texts >= MOST_TEXTS) {
            return NONE;
        }
        // Neither now nor THE IMAGE has this one: THE IMAGE never has more TEXTS than now.
        reader.read(texts[now.texts]);
        reader.size = 0;
        if (reader.wrong != 0) {
            return NONE;
        }
        now.texts++;
        return now.texts - 1;
    }

    public int fault(int what) {
        if (what == 0) {
            return reader.wrong;
        }
        return what == 1 ? reader.wrongPlace : NONE;
    }

    public boolean by(int text) {
        if (!isWithin(text, NONE, now.texts - 1)) {
            return false;
        }
        waterChanges();
        now.ruling = text;
        return true;
    }

    public int laid(int text) {
        if (!isWithin(text, 0, now.texts - 1)) {
            return OTHERS;
        }
        waterChanges();
        return now.lay(texts[text]);
    }

    public int drops(int basin) {
        return now.works.hasBasin(basin) ? now.water.drops[basin] : NONE;
    }

    public int of(int siphon, int what) {
        if (!now.works.hasSiphon(siphon)) {
            return NONE;
        }
        switch (what) {
            case 0:
                return now.water.runs >> siphon & 1;
            case 1:
                return now.water.rests[siphon];
            case 2:
                return now.water.open >> siphon & 1;
            case 3:
                return now.works.crest[siphon];
            case 4:
                return now.works.bore[siphon];
            case 5:
                return now.works.clog[siphon];
            default:
                return NONE;
        }
    }

    public int ticks(int n) {
        if (isDesert() || !isWithin(n, 1, MOST_AT_ONCE) || now.water.tick + n > LAST_TICK) {
            return NONE;
        }
        waterChanges();
        obey();
        int had = now.water.village;
        for (int i = 0; i < n; i++) {
            engine.step(now.water);
        }
        return now.water.village - had;
    }

    public int plays(int k) {
        if (isDesert() || !isWithin(k, 0, FAR)) {
            return NONE;
        }
        obey();
        film.reach(k + 1);
        return film.played[k];
    }

    public int round(int what) {
        if (isDesert() || !isWithin(what, 0, 1)) {
            return NONE;
        }
        obey();
        film.comeRound();
        return what == 0 ? film.lead : film.length;
    }

    public int want(int kind, int t, int which, int v) {
        boolean ofSiphon = kind == PLAYS_THEN || kind == SILENT_THEN;
        boolean ofBasin = kind == HAS_OR_MORE || kind == HAS_OR_LESS;
        boolean there = ofSiphon && now.works.hasSiphon(which)
                || ofBasin && now.works.hasBasin(which) && isWithin(v, 0, 99);
        if (!there || !isWithin(t, 0, HOURS - 1)) {
            return NONE;
        }
        wantsChange();
        return now.wants.add(kind, t, which, v);
    }

    public int missed() {
        if (isDesert()) {
            return NONE;
        }
        obey();
        return turning.firstUnmet();
    }

    public int turnsOf(int what) {
        if (isDesert() || !isWithin(what, 0, 4)) {
            return NONE;
        }
        obey();
        turning.seek();
        return turning.found[what];
    }

    public int dig(int texts, int what) {
        boolean told = texts > 0 && texts >> now.texts == 0;
        if (isDesert() || !told || !isWithin(what, 0, 3)) {
            return NONE;
        }
        digging.seek(texts);
        return digging.found[what];
    }

    public int heard(int t, int siphon, boolean played) {
        if (!now.works.hasSiphon(siphon) || !isWithin(t, 0, HEARD_TICKS - 1)) {
            return NONE;
        }
        return now.heard.add(played ? PLAYS_THEN : SILENT_THEN, t, siphon, 0);
    }

    public int suspects() {
        if (isDesert()) {
            return NONE;
        }
        obey();
        return hearing.suspected();
    }

    public int look(int what) {
        if (isDesert() || !isWithin(what, 0, 2)) {
            return NONE;
        }
        obey();
        hearing.seek();
        return hearing.found[what];
    }

    public int frost(int n) {
        if (isDesert() || !isWithin(n, 0, FAR)) {
            return NONE;
        }
        obey();
        film.reach(n);
        return film.wet[n];
    }

    public int dry(int basins) {
        if (basins <= 0 || basins >> now.works.basins != 0) {
            return NONE;
        }
        obey();
        for (int n = 0; n <= FAR; n++) {
            film.reach(n);
            if ((film.wet[n] & basins) == 0) {
                return n;
            }
        }
        return NONE;
    }

    public int line(int j, int siphon, boolean played) {
        if (!now.works.hasSiphon(siphon) || !isWithin(j, 0, LAST_LINE_TICK)) {
            return NONE;
        }
        return now.lines.add(played ? PLAYS_THEN : SILENT_THEN, j, siphon, 0);
    }

    public int written(int i) {
        if (isDesert() || i < NONE) {
            return NONE;
        }
        obey();
        film.reach(LAST_BEGINNING + LAST_LINE_TICK + 1);
        int count = 0;
        for (int k = 0; k <= LAST_BEGINNING; k++) {
            if (now.lines.holdFrom(k, film.played)) {
                if (count == i) {
                    return k;
                }
                count++;
            }
        }
        return i == NONE ? count : NONE;
    }

    public int shortOf(int day) {
        if (isDesert() || !isWithin(day, 0, LAST_SHORT_DAY)) {
            return NONE;
        }
        obey();
        int due = engine.dueOf(now.water.tick / HOURS + day);
        return Math.max(due - film.givenIn(day), 0);
    }

    public int image() {
        kept.copyFrom(now);
        return kept.water.tick;
    }

    public int back() {
        waterChanges();
        now.copyFrom(kept);
        return now.water.tick;
    }

    public int about(int what) {
        if (isWithin(what, 20, 29)) {
            return now.works.hasBasin(what - 20) ? now.works.height[what - 20] : OTHERS;
        }
        if (isWithin(what, 30, 39)) {
            return now.works.hasBasin(what - 30) ? now.works.room[what - 30] : OTHERS;
        }
        return countOf(what);
    }

    private int countOf(int what) {
        switch (what) {
            case 0:
                return now.water.tick;
            case 1:
                return now.works.basins;
            case 2:
                return now.works.siphons;
            case 3:
                return now.texts;
            case 4:
                return now.ruling;
            case 5:
                return now.water.village;
            case 6:
                return now.water.today;
            case 7:
                return now.wants.count;
            case 8:
                return now.heard.count;
            case 9:
                return now.lines.count;
            case 10:
                return reader.size;
            default:
                return OTHERS;
        }
    }

    private boolean isDesert() {
        return now.works.basins == 0;
    }

    /** What was TRIED is kept until the water could go another way: asking again costs little. */
    private void waterChanges() {
        film.forget();
        hearing.forget();
        wantsChange();
    }

    private void wantsChange() {
        turning.forget();
        digging.forget();
    }

    private void obey() {
        boolean ruled = isWithin(now.ruling, 0, MOST_TEXTS - 1);
        engine.text = ruled ? texts[now.ruling] : null;
    }

    private static boolean isWithin(int v, int low, int high) {
        return low <= v && v <= high;
    }

    /** What was built: it stays as it is while the water moves. */
    private static final class Works {
        int basins;
        int siphons;
        final int[] height = new int[MOST_BASINS];
        final int[] room = new int[MOST_BASINS];
        final int[] from = new int[MOST_SIPHONS];
        final int[] to = new int[MOST_SIPHONS];
        final int[] crest = new int[MOST_SIPHONS];
        final int[] bare = new int[MOST_SIPHONS];
        final int[] bore = new int[MOST_SIPHONS];
        final int[] rest = new int[MOST_SIPHONS];
        final int[] clog = new int[MOST_SIPHONS];

        boolean hasBasin(int b) {
            return isWithin(b, 0, basins - 1);
        }

        boolean hasSiphon(int s) {
            return isWithin(s, 0, siphons - 1);
        }

        boolean canLead(int source, int goal) {
            if (!hasBasin(source)) {
                return false;
            }
            return goal == NONE || hasBasin(goal) && height[goal] < height[source];
        }

        int fallOf(int s) {
            int goal = to[s];
            return height[from[s]] - (goal == NONE ? 0 : height[goal]);
        }

        /** A ROOM below this can't be dug: a SIPHON from there would have its CREST above it. */
        int highestCrest(int b) {
            int highest = 1;
            for (int s = 0; s < siphons; s++) {
                if (from[s] == b) {
                    highest = Math.max(highest, crest[s]);
                }
            }
            return highest;
        }

        void copyFrom(Works w) {
            basins = w.basins;
            siphons = w.siphons;
            System.arraycopy(w.height, 0, height, 0, MOST_BASINS);
            System.arraycopy(w.room, 0, room, 0, MOST_BASINS);
            System.arraycopy(w.from, 0, from, 0, MOST_SIPHONS);
            System.arraycopy(w.to, 0, to, 0, MOST_SIPHONS);
            System.arraycopy(w.crest, 0, crest, 0, MOST_SIPHONS);
            System.arraycopy(w.bare, 0, bare, 0, MOST_SIPHONS);
            System.arraycopy(w.bore, 0, bore, 0, MOST_SIPHONS);
            System.arraycopy(w.rest, 0, rest, 0, MOST_SIPHONS);
            System.arraycopy(w.clog, 0, clog, 0, MOST_SIPHONS);
        }
    }

    /** What moves: apart from the works, so that a trial copies little. */
    private static final class Water {
        final int[] drops = new int[MOST_BASINS];
        final int[] rests = new int[MOST_SIPHONS];
        int runs;
        int open;
        int tick;
        int village;
        int today;

        void copyFrom(Water w) {
            System.arraycopy(w.drops, 0, drops, 0, MOST_BASINS);
            System.arraycopy(w.rests, 0, rests, 0, MOST_SIPHONS);
            runs = w.runs;
            open = w.open;
            tick = w.tick;
            village = w.village;
            today = w.today;
        }

        void give(int amount) {
            village += amount;
            today += amount;
        }

        int wetBasins() {
            int wet = 0;
            for (int b = 0; b < MOST_BASINS; b++) {
                if (drops[b] > 0) {
                    wet |= 1 << b;
                }
            }
            return wet;
        }
    }

    /** All that AN IMAGE holds. TEXTS are only added to, so their number is enough. */
    private static final class Palace {
        final Works works = new Works();
        final Water water = new Water();
        final Notes wants = new Notes(MOST_WANTS);
        final Notes heard = new Notes(MOST_HEARD);
        final Notes lines = new Notes(MOST_LINES);
        int texts;
        int ruling = NONE;

        void copyFrom(Palace p) {
            works.copyFrom(p.works);
            water.copyFrom(p.water);
            wants.copyFrom(p.wants);
            heard.copyFrom(p.heard);
            lines.copyFrom(p.lines);
            texts = p.texts;
            ruling = p.ruling;
        }

        int addBasin(int height, int room, int drops) {
            boolean can = isWithin(height, 0, 99) && isWithin(room, 1, 99) && isWithin(drops, 0, room);
            int b = works.basins;
            if (!can || b >= MOST_BASINS) {
                return NONE;
            }
            works.height[b] = height;
            works.room[b] = room;
            water.drops[b] = drops;
            works.basins++;
            return b;
        }

        int addSiphon(int from, int to, int crest, int bare, int bore, int rest) {
            int s = works.siphons;
            if (s >= MOST_SIPHONS || !works.canLead(from, to)) {
                return NONE;
            }
            if (!isWithin(crest, 1, works.room[from]) || !isWithin(bare, 0, crest - 1)) {
                return NONE;
            }
            if (!isWithin(bore, 1, 9) || !isWithin(rest, 0, 9)) {
                return NONE;
            }
            works.from[s] = from;
            works.to[s] = to;
            works.crest[s] = crest;
            works.bare[s] = bare;
            works.bore[s] = bore;
            works.rest[s] = rest;
            works.clog[s] = 0;
            water.open |= 1 << s;
            works.siphons++;
            return s;
        }

        int lay(Text text) {
            clear();
            for (int i = 0; i < text.clauses; i++) {
                if (!layClause(text, i)) {
                    return i;
                }
            }
            return NONE;
        }

        private boolean layClause(Text text, int i) {
            int[] n = text.numbers;
            int at = i * MOST_NUMBERS;
            if (text.kinds[i] == BASIN_ROW) {
                return addBasin(n[at], n[at + 1], n[at + 2]) != NONE;
            }
            if (text.kinds[i] == SIPHON_ROW) {
                int to = n[at + 1] == GARDEN_IN_TEXTS ? NONE : n[at + 1];
                return addSiphon(n[at], to, n[at + 2], n[at + 3], n[at + 4], 0) != NONE;
            }
            return true;
        }

        /** Notes may still ask for what is there no more, and a new SIPHON neither runs nor rests. */
        private void clear() {
            works.basins = 0;
            works.siphons = 0;
            Arrays.fill(water.drops, 0);
            Arrays.fill(water.rests, 0);
            water.runs = 0;
            water.open = 0;
        }
    }

    /** WANTS, HEARD or lines: what is said of a TICK. */
    private static final class Notes {
        int count;
        final int[] kind;
        final int[] tick;
        final int[] which;
        final int[] level;

        Notes(int most) {
            kind = new int[most];
            tick = new int[most];
            which = new int[most];
            level = new int[most];
        }

        int add(int k, int t, int w, int v) {
            if (count >= kind.length) {
                return NONE;
            }
            kind[count] = k;
            tick[count] = t;
            which[count] = w;
            level[count] = v;
            count++;
            return count;
        }

        void copyFrom(Notes n) {
            count = Math.min(n.count, kind.length);
            System.arraycopy(n.kind, 0, kind, 0, count);
            System.arraycopy(n.tick, 0, tick, 0, count);
            System.arraycopy(n.which, 0, which, 0, count);
            System.arraycopy(n.level, 0, level, 0, count);
        }

        int lastTick() {
            int last = NONE;
            for (int i = 0; i < count; i++) {
                last = Math.max(last, tick[i]);
            }
            return last;
        }

        /** Whether one asks for what no TICK can bring: more than there is ROOM for, or one that is gone. */
        boolean areHopeless(Works works) {
            for (int i = 0; i < count; i++) {
                int w = which[i];
                if (kind[i] == PLAYS_THEN && !works.hasSiphon(w)) {
                    return true;
                }
                if (kind[i] == HAS_OR_MORE && level[i] > (works.hasBasin(w) ? works.room[w] : 0)) {
                    return true;
                }
            }
            return false;
        }

        /** Which notes of TICK t (bits) aren't so, with who played in it and the water behind it. */
        int unmet(int t, int played, Water w) {
            int wrong = 0;
            for (int i = 0; i < count; i++) {
                if (tick[i] == t && !isSo(i, played, w)) {
                    wrong |= 1 << i;
                }
            }
            return wrong;
        }

        private boolean isSo(int i, int played, Water w) {
            if (kind[i] == HAS_OR_MORE) {
                return w.drops[which[i]] >= level[i];
            }
            if (kind[i] == HAS_OR_LESS) {
                return w.drops[which[i]] <= level[i];
            }
            return (played >> which[i] & 1) == (kind[i] == PLAYS_THEN ? 1 : 0);
        }

        /** Whether all notes of playing are so, their TICK 0 being at this place of the row. */
        boolean holdFrom(int first, int[] played) {
            for (int i = 0; i < count; i++) {
                int at = first + tick[i];
                int due = kind[i] == PLAYS_THEN ? 1 : 0;
                if (at < 0 || at >= played.length || (played[at] >> which[i] & 1) != due) {
                    return false;
                }
            }
            return true;
        }
    }

    /** A TEXT as it was read: its laws as rows of steps, its other clauses as rows of numbers. */
    private static final class Text {
        final int[] steps = new int[MOST_BYTES];
        int length;
        final int[] begin = new int[LAWS];
        final int[] close = new int[LAWS];
        final int[] kinds = new int[MOST_CLAUSES];
        final int[] numbers = new int[MOST_CLAUSES * MOST_NUMBERS];
        int clauses;
        boolean asksRoom;

        void clear() {
            length = 0;
            clauses = 0;
            asksRoom = false;
            Arrays.fill(begin, 0);
            Arrays.fill(close, 0);
        }

        boolean has(int law) {
            return begin[law] < close[law];
        }

        /** Each step is of a TOKEN of its own, so there are never more than bytes. */
        int put(int step, int value) {
            if (length < MOST_BYTES) {
                steps[length] = value << STEP_BITS | step;
                length++;
            }
            return length - 1;
        }

        /** The jump at this place, put before its goal was known, leads to here. */
        void leadHere(int jump) {
            if (isWithin(jump, 0, length - 1)) {
                steps[jump] = length << STEP_BITS | steps[jump] & STEP_MASK;
            }
        }
    }

    /** The tape, and what is read from it: TOKENS, and by them a text or its first FAULT. */
    private static final class Reader {
        private final int[] tape = new int[MOST_BYTES];
        int size;
        int wrong = NONE;
        int wrongPlace = NONE;
        private final int[] kinds = new int[MOST_BYTES + 1];
        private final int[] places = new int[MOST_BYTES + 1];
        private final int[] numbers = new int[MOST_BYTES + 1];
        private int at;
        private int token;
        private int law;
        private Text goal;

        Reader(Text goal) {
            this.goal = goal;
        }

        void take(int four) {
            for (int shift = 24; shift >= 0 && size < MOST_BYTES; shift -= 8) {
                tape[size] = four >> shift & 255;
                size++;
            }
        }

        void read(Text text) {
            cut();
            goal = text;
            goal.clear();
            wrong = 0;
            wrongPlace = NONE;
            at = 0;
            token = kinds[0];
            for (int n = 0; n <= MOST_CLAUSES && wrong == 0 && token != TAPE_ENDS; n++) {
                readClause(n);
            }
        }

        private void cut() {
            int count = 0;
            int place = 0;
            for (int n = 0; n < MOST_BYTES && place < size; n++) {
                int end = endOf(place);
                if (tape[place] != ' ' && tape[place] != '\n') {
                    places[count] = place;
                    kinds[count] = kindOf(place, end);
                    numbers[count] = kinds[count] == NUMBER ? numberOf(place, end) : 0;
                    count++;
                }
                place = end;
            }
            places[count] = size;
            kinds[count] = TAPE_ENDS;
        }

        private int endOf(int place) {
            int c = tape[place];
            int end = place + 1;
            if (isLetter(c)) {
                while (end < size && isLetter(tape[end])) {
                    end++;
                }
            } else if (isDigit(c)) {
                while (end < size && isDigit(tape[end])) {
                    end++;
                }
            } else if ((c == '<' || c == '>') && end < size && tape[end] == '=') {
                end++;
            }
            return end;
        }

        private int kindOf(int place, int end) {
            int c = tape[place];
            if (isLetter(c)) {
                return wordOf(place, end);
            }
            return isDigit(c) ? NUMBER : signOf(c, end - place == 2);
        }

        private static boolean isLetter(int c) {
            return isWithin(c, 'a', 'z') || isWithin(c, 'A', 'Z');
        }

        private static boolean isDigit(int c) {
            return isWithin(c, '0', '9');
        }

        private int numberOf(int place, int end) {
            int number = 0;
            for (int i = place; i < end; i++) {
                // Any number of digits may come: what is too large stays just that.
                number = Math.min(number * 10 + tape[i] - '0', LARGEST_NUMBER + 1);
            }
            return number;
        }

        private int wordOf(int place, int end) {
            int word = 0;
            int like = place;
            for (int i = 0; i < WORDS.length(); i++) {
                char c = WORDS.charAt(i);
                if (c != ' ') {
                    like = like != NONE && like < end && tape[like] == c ? like + 1 : NONE;
                } else if (like == end) {
                    return FIRST_WORD + word;
                } else {
                    word++;
                    like = place;
                }
            }
            return STRANGE;
        }

        private static int signOf(int c, boolean withEqual) {
            switch (c) {
                case '<':
                    return withEqual ? AT_MOST : LESS;
                case '>':
                    return withEqual ? AT_LEAST : MORE;
                case '=':
                    return ALIKE;
                case '#':
                    return UNLIKE;
                case '+':
                    return PLUS;
                case '-':
                    return MINUS;
                case '*':
                    return TIMES;
                case '/':
                    return PARTED;
                case '(':
                    return OPENS;
                case ')':
                    return CLOSES;
                case ',':
                    return COMMA;
                case ';':
                    return SEMICOLON;
                case '?':
                    return ASKED;
                case ':':
                    return COLON;
                default:
                    return STRANGE;
            }
        }

        private void advance() {
            if (wrong == 0 && at < MOST_BYTES) {
                at++;
                token = kinds[at];
            }
        }

        private void expect(int due) {
            if (token == due) {
                advance();
            } else {
                blame(CANT_STAND);
            }
        }

        /** Behind the first FAULT no TOKEN fits any more, so that all reading comes to its end. */
        private void blame(int fault) {
            if (wrong == 0) {
                wrong = fault;
                wrongPlace = places[at];
                token = STRANGE;
            }
        }

        private void readClause(int n) {
            int word = token - FIRST_WORD;
            if (!isWithin(word, SPRING, SIPHON_ROW)) {
                blame(CANT_STAND);
            } else if (word < LAWS && goal.has(word)) {
                blame(TWICE);
            } else if (n >= MOST_CLAUSES) {
                blame(TOO_MANY);
            } else {
                goal.kinds[n] = word;
                goal.clauses = n + 1;
                advance();
                if (word < LAWS) {
                    law = word;
                    goal.begin[word] = goal.length;
                    readSum(0);
                    goal.close[word] = goal.length;
                } else {
                    readRow(n * MOST_NUMBERS, word == BASIN_ROW ? 3 : MOST_NUMBERS);
                }
                expect(SEMICOLON);
            }
        }

        private void readRow(int first, int many) {
            for (int i = 0; i < many; i++) {
                if (i > 0) {
                    expect(COMMA);
                }
                goal.numbers[first + i] = numbers[at];
                readNumber();
            }
        }

        private void readNumber() {
            if (token != NUMBER) {
                blame(CANT_STAND);
            } else if (numbers[at] > LARGEST_NUMBER) {
                blame(TOO_LARGE);
            } else {
                advance();
            }
        }

        private void readSum(int depth) {
            readProduct(depth);
            for (int n = 0; n < MOST_BYTES && (token == PLUS || token == MINUS); n++) {
                int sign = token;
                advance();
                readProduct(depth);
                goal.put(sign, 0);
            }
        }

        private void readProduct(int depth) {
            readOne(depth);
            for (int n = 0; n < MOST_BYTES && (token == TIMES || token == PARTED); n++) {
                int sign = token;
                advance();
                readOne(depth);
                goal.put(sign, 0);
            }
        }

        private void readOne(int depth) {
            if (token == NUMBER) {
                goal.put(PUSH, numbers[at]);
                readNumber();
            } else if (isWithin(token, FIRST_NAME, FIRST_NAME + NAMES - 1)) {
                readName(token - FIRST_NAME);
            } else if (token != OPENS && token != MINUS && token != IF) {
                blame(CANT_STAND);
            } else if (depth >= DEEPEST) {
                blame(TOO_DEEP);
            } else if (token == IF) {
                readChoice(depth + 1);
            } else if (token == MINUS) {
                advance();
                readOne(depth + 1);
                goal.put(NEGATE, 0);
            } else {
                advance();
                readSum(depth + 1);
                expect(CLOSES);
            }
        }

        private void readName(int name) {
            if ((NAMES_OF_LAW[law] >> name & 1) == 0) {
                blame(WRONG_NAME);
            } else {
                goal.put(NAME, name);
                goal.asksRoom |= name == ROOM;
                advance();
            }
        }

        private void readChoice(int depth) {
            advance();
            readEither(depth);
            expect(ASKED);
            int unless = goal.put(UNLESS, 0);
            readSum(depth);
            expect(COLON);
            int over = goal.put(JUMP, 0);
            goal.leadHere(unless);
            readSum(depth);
            expect(END);
            goal.leadHere(over);
        }

        private void readEither(int depth) {
            readBoth(depth);
            for (int n = 0; n < MOST_BYTES && token == OR_WORD; n++) {
                advance();
                readBoth(depth);
                goal.put(OR, 0);
            }
        }

        private void readBoth(int depth) {
            readAsk(depth);
            for (int n = 0; n < MOST_BYTES && token == AND_WORD; n++) {
                advance();
                readAsk(depth);
                goal.put(AND, 0);
            }
        }

        private void readAsk(int depth) {
            if (token == NOT_WORD && depth >= DEEPEST) {
                blame(TOO_DEEP);
            } else if (token == NOT_WORD) {
                advance();
                readAsk(depth + 1);
                goal.put(NOT, 0);
            } else {
                readSum(depth);
                int sign = token;
                if (isWithin(sign, LESS, UNLIKE)) {
                    advance();
                    readSum(depth);
                    goal.put(sign, 0);
                } else {
                    blame(CANT_STAND);
                }
            }
        }
    }

    /** Moves water by one TICK, by a text's laws. */
    private static final class Engine {
        private final Works works;
        private final int[] asked = new int[NAMES];
        // A step puts one number at most, and takes two from the top: with two places below the floor
        // one look at the top ahead of each step keeps all of it within the stack.
        private static final int STACK_FLOOR = 2;
        private final int[] stack = new int[STACK_FLOOR + MOST_BYTES];
        Text text;
        // What the searches skip by: whose cock mattered in the latest TICK, and who ever started
        // and which basins ever fell over since the search set these to 0.
        int heeded;
        int started;
        int spilled;

        Engine(Works works) {
            this.works = works;
        }

        /** One TICK of this water: which SIPHONS PLAY in it. */
        int step(Water w) {
            asked[HOUR] = w.tick % HOURS;
            asked[DAY] = w.tick / HOURS;
            w.drops[0] += Math.max(0, Math.min(99, worked(SPRING, 1)));
            int ran = w.runs;
            startAndStop(w);
            int played = w.runs;
            carry(w);
            fallOver(w);
            if (text != null && text.has(SUN)) {
                shine(w);
            }
            letRest(w, (ran | played) & ~w.runs);
            w.tick++;
            if (w.tick % HOURS == 0) {
                w.today = 0;
            }
            return played;
        }

        private void startAndStop(Water w) {
            int able = 0;
            for (int s = 0; s < works.siphons; s++) {
                int has = w.drops[works.from[s]];
                boolean runs = (w.runs >> s & 1) != 0;
                if (runs ? has > works.bare[s] : w.rests[s] == 0 && has >= works.crest[s]) {
                    able |= 1 << s;
                }
            }
            heeded = able;
            started |= able & w.open & ~w.runs;
            w.runs = able & w.open;
        }

        private void carry(Water w) {
            boolean lawful = text != null && text.has(FLOW);
            for (int s = 0; s < works.siphons; s++) {
                if ((w.runs >> s & 1) == 0) {
                    continue;
                }
                int from = works.from[s];
                int to = works.to[s];
                int above = w.drops[from] - works.bare[s];
                int flow = works.bore[s] - works.clog[s];
                if (lawful && above > 0) {
                    asked[BORE] = works.bore[s];
                    asked[CLOG] = works.clog[s];
                    asked[LEVEL] = w.drops[from];
                    asked[FALL] = works.fallOf(s);
                    flow = Math.min(worked(FLOW, 0), 99);
                }
                flow = Math.max(Math.min(flow, above), 0);
                w.drops[from] -= flow;
                if (to == NONE) {
                    w.give(flow);
                } else {
                    w.drops[to] += flow;
                }
                if (above - flow <= 0) {
                    w.runs &= ~(1 << s);
                }
            }
        }

        private void fallOver(Water w) {
            for (int b = 0; b < works.basins; b++) {
                int over = w.drops[b] - works.room[b];
                if (over > 0) {
                    w.drops[b] -= over;
                    w.give(over);
                    spilled |= 1 << b;
                }
            }
        }

        private void shine(Water w) {
            for (int b = 0; b < works.basins; b++) {
                int has = w.drops[b];
                if (has > 0) {
                    asked[LEVEL] = has;
                    asked[ROOM] = works.room[b];
                    asked[HEIGHT] = works.height[b];
                    w.drops[b] -= Math.max(0, Math.min(has, worked(SUN, 0)));
                }
            }
        }

        private void letRest(Water w, int stopped) {
            for (int s = 0; s < works.siphons; s++) {
                if ((stopped >> s & 1) != 0) {
                    w.rests[s] = works.rest[s];
                } else if (w.rests[s] > 0) {
                    w.rests[s]--;
                }
            }
        }

        int dueOf(int day) {
            asked[DAY] = day;
            return Math.max(0, Math.min(9999, worked(DUE, 0)));
        }

        /** What a law says of what is asked now; this other number without the law. */
        private int worked(int law, int without) {
            if (text == null || !text.has(law)) {
                return without;
            }
            int[] steps = text.steps;
            int at = text.begin[law];
            int close = Math.min(text.close[law], steps.length);
            int top = STACK_FLOOR;
            for (int n = 0; n < MOST_BYTES && at < close; n++) {
                if (top < STACK_FLOOR || top >= stack.length) {
                    return without;
                }
                int value = steps[at] >> STEP_BITS;
                int step = steps[at] & STEP_MASK;
                at++;
                switch (step) {
                    case PUSH:
                        stack[top] = value;
                        top++;
                        break;
                    case NAME:
                        stack[top] = asked[value];
                        top++;
                        break;
                    case JUMP:
                        at = value;
                        break;
                    case UNLESS:
                        top--;
                        at = stack[top] == 0 ? value : at;
                        break;
                    case NEGATE:
                        stack[top - 1] = -stack[top - 1];
                        break;
                    case NOT:
                        stack[top - 1] = 1 - stack[top - 1];
                        break;
                    default:
                        top--;
                        stack[top - 1] = joined(step, stack[top - 1], stack[top]);
                        break;
                }
            }
            return stack[STACK_FLOOR];
        }

        private static int joined(int sign, int a, int b) {
            switch (sign) {
                case LESS:
                    return a < b ? 1 : 0;
                case AT_MOST:
                    return a <= b ? 1 : 0;
                case MORE:
                    return a > b ? 1 : 0;
                case AT_LEAST:
                    return a >= b ? 1 : 0;
                case ALIKE:
                    return a == b ? 1 : 0;
                case UNLIKE:
                    return a != b ? 1 : 0;
                case AND:
                    return a & b;
                case OR:
                    return a | b;
                case PARTED:
                    return b == 0 ? 0 : a / b;
                default:
                    long sum = sign == PLUS ? (long) a + b : sign == MINUS ? (long) a - b : (long) a * b;
                    return (int) (sum > LARGEST_SUM ? LARGEST_SUM : sum < -LARGEST_SUM ? -LARGEST_SUM : sum);
            }
        }
    }

    /** What comes if nothing is done: TRIED as far as it was asked for, and kept. */
    private static final class Film {
        private final Palace palace;
        private final Engine engine;
        private final Water water = new Water();
        final int[] played = new int[FAR + 1];
        final int[] wet = new int[FAR + 2];
        private final int[] given = new int[FAR + 2];
        private int known = NONE;
        // ROUND goes from the beginning, when the film's own water may be far ahead already.
        private final Water rounds = new Water();
        // The states of ROUND, each in three numbers: all of it fits, so like numbers are like states.
        private final long[] upper = new long[FAR + 1];
        private final long[] lower = new long[FAR + 1];
        private final long[] resting = new long[FAR + 1];
        private boolean roundKnown;
        int lead;
        int length;

        Film(Palace palace, Engine engine) {
            this.palace = palace;
            this.engine = engine;
        }

        void forget() {
            known = NONE;
            roundKnown = false;
        }

        /** So many TICKS are known: who PLAYS in each, and what is there behind each. */
        void reach(int n) {
            if (known == NONE) {
                water.copyFrom(palace.water);
                known = 0;
                note();
            }
            while (known < n && known <= FAR) {
                played[known] = engine.step(water);
                known++;
                note();
            }
        }

        private void note() {
            wet[known] = water.wetBasins();
            given[known] = water.village;
        }

        /** What THE VILLAGE has of a DAY (0: this one) as it ends. */
        int givenIn(int day) {
            int end = HOURS - palace.water.tick % HOURS + day * HOURS;
            if (!isWithin(end, 1, FAR)) {
                return 0;
            }
            reach(end);
            int before = day == 0 ? given[0] - palace.water.today : given[Math.max(end - HOURS, 0)];
            return given[end] - before;
        }

        void comeRound() {
            if (roundKnown) {
                return;
            }
            roundKnown = true;
            lead = NONE;
            length = NONE;
            rounds.copyFrom(palace.water);
            for (int n = 0; n <= FAR && lead == NONE; n++) {
                keep(n, rounds);
                lead = earlierLike(n);
                length = lead == NONE ? NONE : n - lead;
                engine.step(rounds);
            }
        }

        private void keep(int n, Water w) {
            long up = w.runs;
            long low = 0;
            long rests = 0;
            for (int b = 0; b < MOST_BASINS / 2; b++) {
                up = up << 7 | w.drops[b];
                low = low << 7 | w.drops[b + MOST_BASINS / 2];
            }
            for (int s = 0; s < MOST_SIPHONS; s++) {
                rests = rests << 4 | w.rests[s];
            }
            upper[n] = up;
            lower[n] = low;
            resting[n] = rests;
        }

        /** The state of a like HOUR, behind fewer TICKS, that is as the one behind n. */
        private int earlierLike(int n) {
            for (int i = n % HOURS; i < n; i += HOURS) {
                if (upper[i] == upper[n] && lower[i] == lower[n] && resting[i] == resting[n]) {
                    return i;
                }
            }
            return NONE;
        }
    }

    /** WANTS as they are met, by nothing or by the fewest TURNS. */
    private static final class Turning {
        private final Palace palace;
        private final Engine engine;
        private final Water base = new Water();
        private final Water once = new Water();
        private final Water twice = new Water();
        final int[] found = new int[5];
        private boolean known;
        private int last;
        private int useless;

        Turning(Palace palace, Engine engine) {
            this.palace = palace;
            this.engine = engine;
        }

        void forget() {
            known = false;
        }

        int firstUnmet() {
            int wrong = 0;
            last = palace.wants.lastTick();
            base.copyFrom(palace.water);
            for (int t = 0; t <= last; t++) {
                wrong |= palace.wants.unmet(t, engine.step(base), base);
            }
            for (int i = 0; i < palace.wants.count; i++) {
                if ((wrong >> i & 1) != 0) {
                    return i;
                }
            }
            return NONE;
        }

        void seek() {
            if (known) {
                return;
            }
            known = true;
            Arrays.fill(found, NONE);
            last = palace.wants.lastTick();
            base.copyFrom(palace.water);
            if (isMet(base, 0)) {
                found[0] = 0;
                return;
            }
            if (palace.wants.areHopeless(palace.works)) {
                return;
            }
            useless = ~siphonsAround(palace.wants, palace.works);
            if (turnFirst(true)) {
                found[0] = 1;
            } else if (turnFirst(false)) {
                found[0] = 2;
            }
        }

        /** Whose cocks can change what WANTS ask for: turning another one never spares a turn. */
        private static int siphonsAround(Notes wants, Works works) {
            int near = 0;
            for (int i = 0; i < wants.count; i++) {
                int which = wants.which[i];
                boolean ofBasin = wants.kind[i] >= HAS_OR_MORE;
                near |= ofBasin ? 1 << which : works.hasSiphon(which) ? 1 << works.from[which] : 0;
            }
            int around = 0;
            // A SIPHON leads down, so each pass goes a BASIN further up until there is none.
            for (int pass = 0; pass < MOST_BASINS; pass++) {
                for (int s = 0; s < works.siphons; s++) {
                    int ends = 1 << works.from[s] | (works.to[s] == NONE ? 0 : 1 << works.to[s]);
                    if ((ends & near) != 0) {
                        around |= 1 << s;
                        near |= 1 << works.from[s];
                    }
                }
            }
            return around;
        }

        private boolean isMet(Water w, int first) {
            for (int t = first; t <= last; t++) {
                if (palace.wants.unmet(t, engine.step(w), w) != 0) {
                    return false;
                }
            }
            return true;
        }

        /**
         * Looks for the first turn, by itself or with a second one. No turn comes behind a TICK with
         * an unmet WANT, and a cock that didn't matter in a TICK is turned behind it to the same end.
         */
        private boolean turnFirst(boolean alone) {
            int idle = useless;
            base.copyFrom(palace.water);
            for (int t = 0; t <= last; t++) {
                for (int s = 0; s < palace.works.siphons; s++) {
                    if ((idle >> s & 1) != 0) {
                        continue;
                    }
                    once.copyFrom(base);
                    once.open ^= 1 << s;
                    if (alone ? isMet(once, t) : turnSecond(t, s)) {
                        found[1] = t;
                        found[2] = s;
                        return true;
                    }
                }
                int wrong = palace.wants.unmet(t, engine.step(base), base);
                idle = useless | ~engine.heeded;
                if (wrong != 0) {
                    return false;
                }
            }
            return false;
        }

        private boolean turnSecond(int first, int siphon) {
            int idle = useless;
            for (int t = first; t <= last; t++) {
                for (int s = t == first ? siphon + 1 : 0; s < palace.works.siphons; s++) {
                    if ((idle >> s & 1) != 0) {
                        continue;
                    }
                    twice.copyFrom(once);
                    twice.open ^= 1 << s;
                    // Written out, not isMet: calls stay eight deep.
                    boolean met = true;
                    for (int u = t; u <= last && met; u++) {
                        met = palace.wants.unmet(u, engine.step(twice), twice) == 0;
                    }
                    if (met) {
                        found[3] = t;
                        found[4] = s;
                        return true;
                    }
                }
                int wrong = palace.wants.unmet(t, engine.step(once), once);
                idle = useless | ~engine.heeded;
                if (wrong != 0) {
                    return false;
                }
            }
            return false;
        }
    }

    /** DIGGING: the least change by which all WANTS are met with each text of a set. */
    private static final class Digging {
        private static final int MOST_SPOTS = MOST_SIPHONS + MOST_SIPHONS + MOST_BASINS;
        private static final int MOST_CHANGE = 98;

        private final Palace palace;
        private final Engine engine;
        private final Text[] texts;
        private final Water water = new Water();
        final int[] found = new int[4];
        // Spots in their order: the BORES, the CRESTS, the ROOMS.
        private final int[] low = new int[MOST_SPOTS];
        private final int[] high = new int[MOST_SPOTS];
        private int knownFor = NONE;

        Digging(Palace palace, Engine engine, Text[] texts) {
            this.palace = palace;
            this.engine = engine;
            this.texts = texts;
        }

        void forget() {
            knownFor = NONE;
        }

        void seek(int set) {
            if (knownFor == set) {
                return;
            }
            knownFor = set;
            Arrays.fill(found, NONE);
            if (areMet(set)) {
                return;
            }
            bound();
            int spots = palace.works.siphons * 2 + palace.works.basins;
            for (int by = 1; by <= MOST_CHANGE; by++) {
                for (int spot = 0; spot < spots && spot < MOST_SPOTS; spot++) {
                    if (helps(set, spot, -by) || helps(set, spot, by)) {
                        found[0] = by;
                        return;
                    }
                }
            }
        }

        private void bound() {
            Works works = palace.works;
            int many = works.siphons;
            for (int s = 0; s < many; s++) {
                low[s] = 1;
                high[s] = 9;
                low[many + s] = works.bare[s] + 1;
                high[many + s] = works.room[works.from[s]];
            }
            for (int b = 0; b < works.basins; b++) {
                low[many * 2 + b] = Math.max(palace.water.drops[b], works.highestCrest(b));
                high[many * 2 + b] = 99;
            }
        }

        private boolean helps(int set, int spot, int change) {
            int many = palace.works.siphons;
            int what = spot < many ? 0 : spot < many * 2 ? 1 : 2;
            int which = spot - many * what;
            int[] row = what == 0 ? palace.works.bore : what == 1 ? palace.works.crest : palace.works.room;
            int old = row[which];
            int dug = old + change;
            if (!isWithin(dug, low[spot], high[spot])) {
                return false;
            }
            row[which] = dug;
            boolean met = areMet(set);
            row[which] = old;
            if (met) {
                found[1] = what;
                found[2] = which;
                found[3] = dug;
            } else if (isOutOfReach(what, which)) {
                high[spot] = dug - 1;
            }
            return met;
        }

        /** Whether the water never came up to what was dug: then it won't to anything higher. */
        private boolean isOutOfReach(int what, int which) {
            if (what == 1) {
                return (engine.started >> which & 1) == 0;
            }
            boolean asked = engine.text != null && engine.text.asksRoom;
            return what == 2 && !asked && (engine.spilled >> which & 1) == 0;
        }

        /** Ends at the first text with which one isn't, the engine being as that text left it. */
        private boolean areMet(int set) {
            int last = palace.wants.lastTick();
            for (int i = 0; i < MOST_TEXTS; i++) {
                if ((set >> i & 1) == 0) {
                    continue;
                }
                engine.text = texts[i];
                engine.started = 0;
                engine.spilled = 0;
                water.copyFrom(palace.water);
                for (int t = 0; t <= last; t++) {
                    if (palace.wants.unmet(t, engine.step(water), water) != 0) {
                        return false;
                    }
                }
            }
            return true;
        }
    }

    /** Which SIPHON may be BROKEN, by what was HEARD. */
    private static final class Hearing {
        private final Palace palace;
        private final Engine engine;
        private final Water water = new Water();
        final int[] found = new int[3];
        // Who PLAYS, TICK by TICK, one row for each SIPHON that may be BROKEN, one for none.
        private final int[] played = new int[(MOST_SIPHONS + 1) * HEARD_TICKS];
        private boolean known;

        Hearing(Palace palace, Engine engine) {
            this.palace = palace;
            this.engine = engine;
        }

        void forget() {
            known = false;
        }

        int suspected() {
            if (!known) {
                known = true;
                listen();
            }
            int suspects = 0;
            for (int s = 0; s <= MOST_SIPHONS; s++) {
                if (mayBe(s) && palace.heard.holdFrom(s * HEARD_TICKS, played)) {
                    suspects |= 1 << s;
                }
            }
            return suspects;
        }

        private boolean mayBe(int broken) {
            return broken == BROKEN_NONE || broken < palace.works.siphons;
        }

        /** One that is BROKEN plays as one with its cock shut: how long it rests is never asked. */
        private void listen() {
            for (int s = 0; s <= MOST_SIPHONS; s++) {
                if (mayBe(s)) {
                    water.copyFrom(palace.water);
                    water.open &= ~(1 << s);
                    for (int t = 0; t < HEARD_TICKS; t++) {
                        played[s * HEARD_TICKS + t] = engine.step(water);
                    }
                }
            }
        }

        void seek() {
            Arrays.fill(found, NONE);
            int suspects = suspected();
            int all = Integer.bitCount(suspects);
            int least = all;
            for (int t = 0; t < HOURS; t++) {
                for (int s = 0; s < palace.works.siphons; s++) {
                    int greater = greaterPart(suspects, all, t, s);
                    if (greater < least) {
                        least = greater;
                        found[0] = t;
                        found[1] = s;
                        found[2] = greater;
                    }
                }
            }
        }

        private int greaterPart(int suspects, int all, int t, int s) {
            int playing = 0;
            for (int i = 0; i <= MOST_SIPHONS; i++) {
                if ((suspects >> i & 1) != 0) {
                    playing += played[i * HEARD_TICKS + t] >> s & 1;
                }
            }
            return Math.max(playing, all - playing);
        }
    }
}
