import java.util.List;

/** Palaces made alike: what a refused call leaves behind shows as a difference between two of them. */
final class Twins {
    interface Making {
        void of(NoonBasins x);
    }

    interface Call {
        int on(NoonBasins x);
    }

    interface Asking {
        boolean on(NoonBasins x);
    }

    private final Making making;
    private final List<String> untouched;

    Twins(Making making) {
        this.making = making;
        this.untouched = Sight.of(make());
    }

    private NoonBasins make() {
        NoonBasins x = new NoonBasins();
        making.of(x);
        return x;
    }

    /** The call is answered so, and nothing that can be asked later tells that it was made. */
    void refuse(String name, int due, Call call) {
        NoonBasins x = make();
        Due.is(name, call.on(x), due);
        Sight.same(name + " changes nothing", Sight.of(x), untouched);
    }

    void refuse(String name, Asking call) {
        refuse(name, 0, x -> call.on(x) ? 1 : 0);
    }

    /** The call is answered so, and something can be seen of it: else refuse would show nothing. */
    void take(String name, int due, Call call) {
        NoonBasins x = make();
        Due.is(name, call.on(x), due);
        Due.holds(name + " changes something", !Sight.of(x).equals(untouched));
    }

    /** Some of everything, so that a trace anywhere can be seen; 7 bytes of a text stand on the tape. */
    static void rich(NoonBasins x) {
        x.basin(90, 12, 7);
        x.basin(60, 9, 3);
        x.basin(30, 20, 0);
        x.siphon(0, 1, 8, 2, 3, 1);
        x.siphon(1, 2, 5, 1, 4, 0);
        x.siphon(2, NoonBasins.NONE, 10, 3, 9, 2);
        Due.read(x, "spring 2;sun if hour=12?1:0 end;due 50;");
        x.by(0);
        x.clog(1, 1);
        x.want(0, 3, 0, 0);
        x.heard(4, 1, true);
        x.line(2, 0, true);
        x.ticks(5);
        x.image();
        x.siphon(1, NoonBasins.NONE, 9, 0, 1, 9);
        Due.read(x, "spring 3;flow bore;due 90+day;");
        x.by(1);
        x.cock(2, false);
        x.want(3, 9, 1, 6);
        x.heard(6, 2, false);
        x.line(5, 1, false);
        x.ticks(3);
        Due.read(x, "sun bore;");
        Due.put(x, "due 77;");
    }

    /** As much of everything as there can be; THE IMAGE has two TEXTS, so that the tape is read at last. */
    static void full(NoonBasins x) {
        for (int b = 0; b < 10; b++) {
            x.basin(99 - b, 20 + b, 10 + b);
        }
        for (int s = 0; s < 14; s++) {
            x.siphon(s % 10, s < 9 ? s + 1 : NoonBasins.NONE, 12 + s % 10, s % 5, 1 + s % 9, s % 10);
        }
        Due.read(x, "spring 3;due 50;");
        Due.read(x, "spring 4;sun 1;");
        x.by(0);
        x.image();
        Due.read(x, "flow bore;due 60;");
        Due.read(x, "spring 5;");
        x.by(2);
        x.ticks(2);
        for (int i = 0; i < 8; i++) {
            x.want(3, 3 * i, i, 29);
        }
        int plays = x.plays(0);
        for (int i = 0; i < 20; i++) {
            x.heard(0, i % 14, (plays >> i % 14 & 1) != 0);
        }
        for (int i = 0; i < 12; i++) {
            x.line(40, 13, false);
        }
        Due.put(x, "due 77;" + " ".repeat(293));
    }

    /** No BASINS, but TEXTS, notes and a tape from when there were some. */
    static void desert(NoonBasins x) {
        x.basin(90, 12, 7);
        x.siphon(0, NoonBasins.NONE, 8, 2, 3, 1);
        Due.read(x, "spring 2;");
        x.by(0);
        x.want(0, 3, 0, 0);
        x.heard(4, 0, true);
        x.line(2, 0, true);
        x.ticks(5);
        x.image();
        x.laid(0);
        Due.put(x, "due 77;");
    }
}
