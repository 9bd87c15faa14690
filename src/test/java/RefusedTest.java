import java.util.ArrayList;
import java.util.List;
import java.util.function.Function;
import java.util.function.Supplier;

/**
 * Of 'Terms': which exception a call throws, and that a call that throws changes nothing. An object is asked for all
 * that it tells of itself, and for what comes next; as one has but 512 calls, each part of this is asked of an object
 * of its own, made by the same calls.
 */
public final class RefusedTest {
    private static final int RUN = LinePredict.RUN;

    private final Check check = new Check();
    private String when = "";
    private Supplier<Line> made;
    private List<Object> before;

    public static void main(String[] args) {
        RefusedTest test = new RefusedTest();
        test.ofANewOne();
        test.inARun();
        test.behindASteepOne();
        test.atAnUnlikeEnd();
        test.ofAWholeRow();
        test.foldedTheOtherWay();
        test.check.finish();
    }

    private void begin(String when, Supplier<Line> made) {
        this.when = when;
        this.made = made;
        check.sentence("a call that throws changes nothing");
        before = everything(made);
    }

    private void refused(String what, Function<Line, Object> call, Class<?> due) {
        Supplier<Line> afterIt = () -> {
            Line line = made.get();
            check.refused(what + " " + when, () -> call.apply(line), due);
            return line;
        };
        check.same("everything behind " + what + " " + when, everything(afterIt), before);
    }

    private static List<Object> everything(Supplier<Line> made) {
        List<Object> all = new ArrayList<>();
        for (int k = 0; k < 2; k++) {
            addStates(all, made, k);
        }
        Line line = made.get();
        all.add(line.context());
        all.add(line.predicted());
        all.add(line.runs());
        for (int k = 0; k < 5; k++) {
            all.add(line.neighbour(k));
        }
        for (int k = 0; k < 11; k++) {
            all.add(line.setting(k));
        }
        addNext(all, line);
        Line other = made.get();
        all.add(Check.answer(() -> other.thresholds(9, 30, 70)));
        all.add(Check.answer(() -> other.reset(4)));
        addNext(all, other);
        return all;
    }

    private static void addStates(List<Object> all, Supplier<Line> made, int side) {
        Line line = made.get();
        for (int q = 1; q <= 366; q++) {
            if (line.callsLeft() < 4) {
                line = made.get();
            }
            for (int what = 0; what < 4; what++) {
                all.add(line.state(side, q, what));
            }
        }
    }

    /** Some samples more: each side's row goes on, and what is told of it shows what the side has kept. */
    private static void addNext(List<Object> all, Line line) {
        for (int i = 0; i < 30; i++) {
            int v = i * 37 % 120;
            all.add(Check.answer(() -> line.sample(line.setting(7), v)));
            all.add(line.context());
            all.add(Check.answer(() -> line.back(line.setting(9), v % 5)));
            all.add(line.context());
            all.add(Check.answer(() -> line.back(line.setting(9), RUN)));
            all.add(line.endRow());
            all.add(line.runs());
        }
    }

    /** What is refused of any object, told or not. */
    private void alwaysRefused() {
        refused("neighbour(-1)", line -> line.neighbour(-1), Check.INDEX);
        refused("neighbour(5)", line -> line.neighbour(5), Check.INDEX);
        refused("setting(-1)", line -> line.setting(-1), Check.INDEX);
        refused("setting(11)", line -> line.setting(11), Check.INDEX);
        refused("state(2, 1, 0)", line -> line.state(2, 1, 0), Check.INDEX);
        refused("state(0, 0, 0)", line -> line.state(0, 0, 0), Check.INDEX);
        refused("state(0, 367, 0)", line -> line.state(0, 367, 0), Check.INDEX);
        refused("state(0, 1, 4)", line -> line.state(0, 1, 4), Check.INDEX);
        refused("quantised(70001)", line -> line.quantised(70001), Check.ARGUMENT);
        refused("quantised(-70001)", line -> line.quantised(-70001), Check.ARGUMENT);
        refused("sample(-1, 5)", line -> line.sample(-1, 5), Check.STATE);
        refused("back(-1, 5)", line -> line.back(-1, 5), Check.STATE);
        refused("back(-1, RUN)", line -> line.back(-1, RUN), Check.STATE);
        refused("sample(-1, -1)", line -> line.sample(-1, -1), Check.STATE);
        refused("back(-1, -1)", line -> line.back(-1, -1), Check.STATE);
    }

    private void tooLate() {
        refused("thresholds(4, 8, 22)", line -> line.thresholds(4, 8, 22), Check.STATE);
        refused("thresholds(0, 0, 0)", line -> line.thresholds(0, 0, 0), Check.STATE);
        refused("reset(5)", line -> line.reset(5), Check.STATE);
        refused("reset(2)", line -> line.reset(2), Check.STATE);
    }

    private void ofANewOne() {
        begin("of a new one", () -> new Line(3, 7, 0));
        alwaysRefused();
        refused("sample(0, 128)", line -> line.sample(0, 128), Check.ARGUMENT);
        refused("sample(0, -1)", line -> line.sample(0, -1), Check.ARGUMENT);
        refused("back(0, -1)", line -> line.back(0, -1), Check.ARGUMENT);
        refused("back(0, 129)", line -> line.back(0, 129), Check.ARGUMENT);
        // In the range of the folded, but an e of 64 and of -65.
        refused("back(0, 127)", line -> line.back(0, 127), Check.ARGUMENT);
        refused("back(0, 128)", line -> line.back(0, 128), Check.ARGUMENT);
    }

    private static Line told(int width, int... samples) {
        Line line = new Line(width, 7, 0);
        for (int i = 0; i < samples.length; i++) {
            int x = i % width;
            line.back(x, line.sample(x, samples[i]));
            if (x == width - 1 && i + 1 < samples.length) {
                line.endRow();
            }
        }
        return line;
    }

    private void inARun() {
        begin("in a run", () -> told(5, 0, 0));
        alwaysRefused();
        tooLate();
        refused("sample(1, 0)", line -> line.sample(1, 0), Check.STATE);
        refused("sample(2, 128)", line -> line.sample(2, 128), Check.ARGUMENT);
        refused("back(2, 129)", line -> line.back(2, 129), Check.ARGUMENT);
        refused("back(2, 127)", line -> line.back(2, 127), Check.ARGUMENT);
        refused("back(2, 128)", line -> line.back(2, 128), Check.ARGUMENT);
    }

    private void behindASteepOne() {
        begin("behind a steep one", () -> told(4, 50, 40, 30, 20, 60, 10));
        alwaysRefused();
        tooLate();
        refused("sample(2, -1)", line -> line.sample(2, -1), Check.ARGUMENT);
        refused("sample(3, 5)", line -> line.sample(3, 5), Check.STATE);
        refused("back(2, RUN)", line -> line.back(2, RUN), Check.ARGUMENT);
        refused("back(2, -1)", line -> line.back(2, -1), Check.ARGUMENT);
        refused("back(2, 128)", line -> line.back(2, 128), Check.ARGUMENT);
        refused("back(2, 129)", line -> line.back(2, 129), Check.ARGUMENT);
        refused("back(3, RUN)", line -> line.back(3, RUN), Check.STATE);
    }

    private void atAnUnlikeEnd() {
        begin("before an unlike end", () -> told(3, 0, 0, 100, 0, 0));
        refused("back(2, 128)", line -> line.back(2, 128), Check.ARGUMENT);
        refused("back(2, 129)", line -> line.back(2, 129), Check.ARGUMENT);
        refused("sample(2, 128)", line -> line.sample(2, 128), Check.ARGUMENT);
        begin("before an unlike end that turns", () -> told(3, 0, 0, 100, 0, 0, 100, 0, 0));
        refused("back(2, 127)", line -> line.back(2, 127), Check.ARGUMENT);
    }

    private void ofAWholeRow() {
        begin("of a whole row", () -> told(3, 0, 0, 100, 0, 7, 0));
        alwaysRefused();
        tooLate();
        for (int x = 0; x < 4; x++) {
            int place = x;
            refused("sample(" + x + ", 5)", line -> line.sample(place, 5), Check.STATE);
            refused("sample(" + x + ", 128)", line -> line.sample(place, 128), Check.STATE);
            refused("back(" + x + ", 0)", line -> line.back(place, 0), Check.STATE);
            refused("back(" + x + ", 129)", line -> line.back(place, 129), Check.STATE);
            refused("back(" + x + ", RUN)", line -> line.back(place, RUN), Check.STATE);
        }
    }

    private static Line leaning() {
        Line line = new Line(64, 7, 0);
        line.thresholds(127, 127, 127);
        int[] samples = {60, 61, 61, 62};
        for (int x = 0; x < 4; x++) {
            line.back(x, line.sample(x, samples[x]));
        }
        return line;
    }

    private void foldedTheOtherWay() {
        begin("where numbers are folded the other way", RefusedTest::leaning);
        refused("back(4, 128)", line -> line.back(4, 128), Check.ARGUMENT);
        refused("back(4, RUN)", line -> line.back(4, RUN), Check.ARGUMENT);
    }
}
