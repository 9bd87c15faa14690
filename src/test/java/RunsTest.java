/** Of 'Terms' what a run is, of promise 4 the samples of one, and promise 11. */
public final class RunsTest {
    private static final int RUN = LinePredict.RUN;

    private final Check check = new Check();

    public static void main(String[] args) {
        RunsTest test = new RunsTest();
        test.flatGradients();
        test.gradientsAtNear();
        test.gradientsBeyondNear();
        test.distanceOfNear();
        test.distanceBelow();
        test.rebuiltIsThePreviousOne();
        test.goesOnOverSteepGradients();
        test.endsWithTheRow();
        test.endsByASample();
        test.endsAtOnce();
        test.countsBothSides();
        test.countsNothingElse();
        test.check.finish();
    }

    private void flatGradients() {
        check.sentence("if none is farther from 0 than NEAR it is a sample of a run");
        Line line = new Line(3, 8, 0);
        check.same("the coder's", line.sample(0, 0), RUN);
        check.same("the decoder's", line.back(0, RUN), 0);
        Line steep = new Line(3, 8, 0);
        steep.sample(0, 1);
        steep.back(0, 1);
        check.same("a like one behind a gradient of 1", steep.sample(1, 1), 0);
        check.refused("RUN behind a gradient of 1", () -> steep.back(1, RUN), Check.ARGUMENT);
    }

    /**
     * Samples of 3 bits with NEAR 1, two in a row; the last one's neighbours a, b, c, d are due, and its context.
     * Rebuilt ones lie 1 apart only where a correction moved what was predicted, or MAX cut it: a search with Model
     * found these rows.
     */
    private void lastOf(int[] samples, int context, int predicted, int... neighbours) {
        Pair pair = new Pair(check, 2, 3, 1);
        for (int i = 0; i + 1 < samples.length; i++) {
            pair.tell(samples[i]);
        }
        int[] due = {context, predicted, neighbours[0], neighbours[1], neighbours[2], neighbours[3]};
        pair.tellSeen(samples[samples.length - 1], due);
    }

    private void gradientsAtNear() {
        check.sentence("if none is farther from 0 than NEAR it is a sample of a run");
        lastOf(new int[] {2, 1, 2, 5, 4, 1, 4}, 0, 3, 3, 3, 3, 2);
        lastOf(new int[] {2, 7, 2, 1, 2, 5, 7}, 366, 3, 3, 3, 3, 4);
        lastOf(new int[] {2, 0, 2, 3, 6, 6, 7, 5}, 0, 6, 6, 5, 6, 5);
        lastOf(new int[] {7, 4, 3, 5, 7, 7, 6, 1}, 366, 6, 6, 7, 6, 7);
        lastOf(new int[] {2, 3, 0, 0, 0, 1}, 0, 1, 1, 0, 0, 0);
        lastOf(new int[] {7, 7, 0, 3, 7, 6, 4, 2}, 366, 5, 5, 6, 6, 6);
        // Two or three of them at NEAR, which together go farther.
        lastOf(new int[] {1, 3, 4, 7, 2, 1, 3, 2, 7}, 366, 2, 2, 2, 3, 1);
        lastOf(new int[] {4, 7, 5, 7, 4, 1, 3, 6, 6}, 366, 4, 4, 4, 3, 5);
        lastOf(new int[] {4, 7, 6, 6, 4, 3, 3, 3}, 0, 4, 4, 2, 3, 2);
        lastOf(new int[] {2, 5, 0, 0, 3, 3, 2, 6}, 365, 4, 2, 4, 3, 4);
    }

    private void gradientsBeyondNear() {
        check.sentence("if none is farther from 0 than NEAR it is a sample of a run");
        lastOf(new int[] {3, 6, 4, 1, 2, 2, 0}, 81, 3, 3, 3, 3, 1);
        lastOf(new int[] {4, 1, 3, 7, 2, 5, 0}, 81, 3, 3, 3, 3, 5);
        lastOf(new int[] {1, 4, 2, 7, 7, 4, 6, 3}, 9, 4, 6, 4, 6, 4);
        lastOf(new int[] {2, 4, 5, 3, 2, 5, 4, 0}, 9, 5, 3, 5, 3, 5);
        lastOf(new int[] {3, 2, 7, 0, 4, 2, 4, 4}, 1, 5, 5, 3, 3, 3);
        lastOf(new int[] {2, 3, 5, 6, 5, 7}, 1, 4, 4, 6, 6, 6);
        // One of them beyond NEAR, though together they do not go as far.
        lastOf(new int[] {6, 2, 1, 1, 5, 4, 7, 5, 0}, 81, 7, 7, 7, 6, 5);
        lastOf(new int[] {0, 3, 2, 1, 5, 5, 5, 7, 2}, 81, 5, 5, 5, 6, 7);
        lastOf(new int[] {4, 6, 6, 7, 2, 2, 2, 4}, 1, 1, 1, 2, 3, 2);
    }

    private void distanceOfNear() {
        check.sentence("if its distance from a is at most NEAR, the run goes on; else the sample ENDS the run");
        for (int near : new int[] {0, 1, 3, 127}) {
            Line on = new Line(2, 8, near);
            check.same("NEAR of " + near, on.sample(0, near), RUN);
            check.seen("at NEAR " + near, on, 0, 0, 0, 0, 0, 0, 0);
            check.same("NEAR again", on.sample(1, near), RUN);
            Line end = new Line(2, 8, near);
            check.same("NEAR + 1 of " + near, end.sample(0, near + 1) != RUN, true);
            check.seen("at NEAR + 1 of " + near, end, 366, 0, 0, 0, 0, 0, 2 * near + 1);
        }
    }

    /** A column of 42 is rebuilt as 42 (6 times 7), and is flat from its third row on. */
    private void distanceBelow() {
        check.sentence("if its distance from a is at most NEAR, the run goes on; else the sample ENDS the run");
        int[][] due = {{45, 0, 42}, {39, 0, 42}, {46, 366, 49}, {38, 366, 35}};
        for (int[] row : due) {
            Pair pair = new Pair(check, 1, 8, 3);
            pair.tell(42, 42);
            pair.tellSeen(row[0], row[1], 42, 42, 42, 42, 42, row[2]);
        }
    }

    private void rebuiltIsThePreviousOne() {
        check.sentence("the run goes on, and a is rebuilt");
        Pair pair = new Pair(check, 4, 8, 2);
        pair.tellAs(2, RUN, 0);
        pair.tellAs(1, RUN, 0);
        // 3 from the 0 that was rebuilt, though but 1 from the sample 2: the run ends.
        pair.tellAs(3, 1, 5);
    }

    /** Row 0 is 9 9 9 9 50 0; from row 2 on, the first two are flat. */
    private Pair overSteepGradients() {
        Pair pair = new Pair(check, 6, 8, 0);
        pair.tell(9, 9, 9, 9, 50, 0);
        pair.tell(9, 9, 9, 9, 50, 0);
        return pair;
    }

    private void goesOnOverSteepGradients() {
        check.sentence("or a RUN goes on, it is a sample of a run");
        Pair pair = overSteepGradients();
        for (int x = 0; x < 3; x++) {
            pair.tellAs(9, RUN, 9);
        }
        pair.tellSeen(9, 0, 9, 9, 9, 9, 50, 9);
        pair.tellSeen(9, 0, 9, 9, 50, 9, 0, 9);
        pair.tellSeen(9, 0, 9, 9, 0, 50, 0, 9);
    }

    /** Row 0 is 5 0 0 0 and ends in a run; below it the first sample has a = b = 5, c = d = 0. */
    private void endsWithTheRow() {
        check.sentence("the run goes on (till the row ends)");
        Line line = new Line(4, 8, 0);
        int[] row = {5, 0, 0, 0};
        for (int x = 0; x < 4; x++) {
            line.back(x, line.sample(x, row[x]));
        }
        check.seen("at the row's end", line, 0, 0);
        check.same("two runs on each side", line.runs(), 4);
        line.endRow();
        check.refused("RUN in the next row", () -> line.back(0, RUN), Check.ARGUMENT);
        check.same("the coder's next row", line.sample(0, 5), 0);
        check.seen("of the coder's next row", line, 162 - 18 + 2, 5, 5, 5, 0, 0, 5);
        check.same("the decoder's next row", line.back(0, 0), 5);
        check.same("no run began", line.runs(), 4);
        Line flat = new Line(2, 8, 0);
        for (int y = 1; y < 4; y++) {
            flat.sample(0, 0);
            flat.sample(1, 0);
            flat.endRow();
            check.same("a flat row begins a run of its own", flat.runs(), y);
        }
    }

    private void endsByASample() {
        check.sentence("else the sample ENDS the run. A run BEGINS where none went on");
        Pair pair = overSteepGradients();
        int before = pair.line.runs();
        pair.tell(9, 9);
        check.same("a run begins on each side", pair.line.runs(), before + 2);
        pair.tellSeen(30, 366, 9, 9, 9, 9, 9, 30);
        check.same("it went on till its end", pair.line.runs(), before + 2);
        pair.tellSeen(30, 324 - 4, 30, 30, 9, 9, 50, 30);
    }

    private void endsAtOnce() {
        check.sentence("How many runs began (those that ended at once, too)");
        Line line = new Line(3, 8, 0);
        line.sample(0, 9);
        check.same("the coder's", line.runs(), 1);
        line.back(0, 17);
        check.same("the decoder's", line.runs(), 2);
        line.sample(1, 0);
        check.same("none by gradients", line.runs(), 2);
        line.sample(2, 1);
        check.same("flat again", line.runs(), 3);
        check.same("context()", line.context(), 366);
    }

    private void countsBothSides() {
        check.sentence("How many runs began, on both sides together");
        Line line = new Line(3, 8, 0);
        line.sample(0, 0);
        check.same("the coder's", line.runs(), 1);
        line.sample(1, 0);
        check.same("that goes on", line.runs(), 1);
        line.back(0, RUN);
        check.same("the decoder's", line.runs(), 2);
        line.back(1, RUN);
        check.same("that goes on", line.runs(), 2);
        line.back(2, 1);
        check.same("that ends", line.runs(), 2);
        line.sample(2, 0);
        check.same("the coder's went on beside it", line.runs(), 2);
    }

    private void countsNothingElse() {
        check.sentence("a call that throws changes nothing");
        Line line = new Line(3, 8, 0);
        check.refused("no sample", () -> line.sample(0, 256), Check.ARGUMENT);
        check.refused("an end that is another error", () -> line.back(0, 255), Check.ARGUMENT);
        check.refused("no error", () -> line.back(0, 257), Check.ARGUMENT);
        check.same("runs()", line.runs(), 0);
        line.back(0, RUN);
        check.refused("an end that is another error", () -> line.back(1, 255), Check.ARGUMENT);
        check.same("RUN still goes on", line.back(1, RUN), 0);
        check.same("runs()", line.runs(), 1);
    }
}
