import java.util.ArrayList;
import java.util.List;

/** All that can be asked of an object, asked: two objects with like answers can't be told apart. */
final class Sight {
    private static final int MOST_CALLS = 512;

    private final NoonBasins x;
    private final List<String> answers = new ArrayList<>();

    private Sight(NoonBasins x) {
        this.x = x;
    }

    /** Uses the object up: what THE IMAGE and the tape have is seen by going back and by reading. */
    static List<String> of(NoonBasins x) {
        Sight s = new Sight(x);
        s.view();
        s.tell("back()", x.back());
        s.view();
        s.tape();
        if (s.answers.size() > MOST_CALLS - 120) {
            throw new IllegalStateException("a sight leaves too few of the 512 calls to the test");
        }
        return s.answers;
    }

    /** The first answer that isn't the one that is due stands for all of them: one trace leaves many. */
    static void same(String what, List<String> seen, List<String> due) {
        for (int i = 0; i < Math.max(seen.size(), due.size()); i++) {
            String got = i < seen.size() ? seen.get(i) : "nothing";
            String wanted = i < due.size() ? due.get(i) : "nothing";
            if (!got.equals(wanted)) {
                Due.holds(what + ": " + got + ", due: " + wanted, false);
                return;
            }
        }
        Due.holds(what, true);
    }

    private void tell(String call, int answer) {
        answers.add(call + " is " + answer);
    }

    private void view() {
        for (int i = 0; i <= 10; i++) {
            tell("about(" + i + ")", x.about(i));
        }
        int basins = x.about(1);
        for (int b = 0; b < basins; b++) {
            tell("about(20 + " + b + ")", x.about(20 + b));
            tell("about(30 + " + b + ")", x.about(30 + b));
            tell("drops(" + b + ")", x.drops(b));
        }
        int siphons = x.about(2);
        for (int s = 0; s < siphons; s++) {
            for (int what = 0; what <= 5; what++) {
                tell("of(" + s + ", " + what + ")", x.of(s, what));
            }
        }
        tell("fault(0)", x.fault(0));
        tell("fault(1)", x.fault(1));
        tried(basins);
    }

    private void tried(int basins) {
        for (int k = 0; k < 20; k++) {
            tell("plays(" + k + ")", x.plays(k));
        }
        for (int day = 0; day <= 2; day++) {
            tell("shortOf(" + day + ")", x.shortOf(day));
        }
        tell("round(0)", x.round(0));
        tell("round(1)", x.round(1));
        tell("frost(0)", x.frost(0));
        tell("frost(30)", x.frost(30));
        tell("dry(all)", x.dry((1 << basins) - 1));
        tell("missed()", x.missed());
        for (int what = 0; what <= 4; what++) {
            tell("turnsOf(" + what + ")", x.turnsOf(what));
        }
        int texts = (1 << x.about(3)) - 1;
        for (int what = 0; what <= 3; what++) {
            tell("dig(all, " + what + ")", x.dig(texts, what));
        }
        tell("suspects()", x.suspects());
        for (int what = 0; what <= 2; what++) {
            tell("look(" + what + ")", x.look(what));
        }
        tell("written(-1)", x.written(-1));
        tell("written(0)", x.written(0));
    }

    /** THE IMAGE of the tests has room for a TEXT, so that the tape can be read and its due be seen. */
    private void tape() {
        int text = x.text();
        tell("text()", text);
        tell("fault(0)", x.fault(0));
        tell("fault(1)", x.fault(1));
        tell("about(10)", x.about(10));
        if (text >= 0) {
            tell("by", x.by(text) ? 1 : 0);
            tell("shortOf(0)", x.shortOf(0));
            tell("laid", x.laid(text));
            tell("about(1)", x.about(1));
        }
    }
}
