/** Promises 7 to 9: context(), predicted() and neighbour() of the sample that was told last, on whichever side. */
public final class LastSampleTest {
    private static final int RUN = LinePredict.RUN;

    private final Check check = new Check();

    public static void main(String[] args) {
        LastSampleTest test = new LastSampleTest();
        test.beforeTheFirst();
        test.inARunOfZeros();
        test.inARunOfOthers();
        test.atARunsEnd();
        test.byGradients();
        test.onWhicheverSide();
        test.rebuiltNotTheSample();
        test.unchangedByOtherCalls();
        test.unchangedByRefusedCalls();
        test.neighboursThatAreNone();
        test.check.finish();
    }

    private void beforeTheFirst() {
        check.sentence("context, predicted, neighbour: 0 before the first");
        for (int[] shape : new int[][] {{1, 2, 0}, {9, 8, 3}, {65536, 16, 255}}) {
            Line line = new Line(shape[0], shape[1], shape[2]);
            check.seen("before the first", line, 0, 0, 0, 0, 0, 0, 0);
            line.endRow();
            line.reset(9);
            line.quantised(99);
            check.refused("a wrong sample", () -> line.sample(0, -1), Check.ARGUMENT);
            check.refused("a wrong error", () -> line.back(0, -1), Check.ARGUMENT);
            check.seen("before the first still", line, 0, 0, 0, 0, 0, 0, 0);
        }
    }

    private void inARunOfZeros() {
        check.sentence("context: 0 in a run. predicted: a in a run");
        Line line = new Line(3, 8, 2);
        line.sample(0, 2);
        check.seen("in the coder's", line, 0, 0, 0, 0, 0, 0, 0);
        line.back(0, RUN);
        check.seen("in the decoder's", line, 0, 0, 0, 0, 0, 0, 0);
    }

    /** Rows of 9 9 30 9: from the third one on the first two samples are flat, and a run goes on over what is above. */
    private void inARunOfOthers() {
        check.sentence("context: 0 in a run. predicted: a in a run. neighbour: a, b, c, d, what was rebuilt");
        Pair pair = new Pair(check, 4, 8, 0);
        pair.tell(9, 9, 30, 9, 9, 9, 30, 9);
        pair.tellSeen(9, 0, 9, 9, 9, 9, 9, 9);
        pair.tellSeen(9, 0, 9, 9, 9, 9, 30, 9);
        pair.tellSeen(9, 0, 9, 9, 30, 9, 9, 9);
        pair.tellSeen(9, 0, 9, 9, 9, 30, 9, 9);
    }

    private void atARunsEnd() {
        check.sentence("The context of the sample that was told last; what was predicted of it");
        Pair pair = new Pair(check, 4, 8, 0);
        pair.tell(9, 9, 30, 9, 9, 9, 30, 9, 9);
        pair.tellSeen(11, 366, 9, 9, 9, 9, 30, 11);
        Pair unlike = new Pair(check, 4, 8, 0);
        unlike.tell(9, 9, 30, 9, 9, 9, 30, 9, 9, 9);
        unlike.tellSeen(11, 365, 30, 9, 30, 9, 9, 11);
    }

    private void byGradients() {
        check.sentence("The context of the sample that was told last; what was predicted of it");
        Pair pair = new Pair(check, 3, 8, 0);
        pair.tell(10, 30, 5);
        // a = b = 10, c = 0, d = 30: 20, 10, -10 are 3, 3, -3.
        pair.tellSeen(12, 243 + 27 - 3, 10, 10, 10, 0, 30, 12);
        // -25, 20, -2 are -4, 3, -1, and SIGN -1.
        pair.tellSeen(12, 324 - 27 + 1, 30, 12, 30, 10, 5, 12);
        // 0, -25, 18 are 0, -4, 3.
        pair.tellSeen(9, 36 - 3, 5, 12, 5, 30, 5, 9);
    }

    private void onWhicheverSide() {
        check.sentence("the sample that was told last (on whichever side)");
        Line line = new Line(3, 8, 0);
        line.sample(0, 10);
        check.seen("of the coder's first", line, 366, 0, 0, 0, 0, 0, 10);
        line.back(0, RUN);
        check.seen("of the decoder's first", line, 0, 0, 0, 0, 0, 0, 0);
        line.sample(1, 20);
        check.seen("of the coder's second", line, 3, 10, 10, 0, 0, 0, 20);
        line.back(1, 11);
        check.seen("of the decoder's second", line, 366, 0, 0, 0, 0, 0, 6);
        line.back(2, 1);
        check.seen("of the decoder's third", line, 2, 6, 6, 0, 0, 0, 7);
    }

    private void rebuiltNotTheSample() {
        check.sentence("neighbour: what was rebuilt (4)");
        Line line = new Line(3, 8, 3);
        line.sample(0, 250);
        check.seen("of 250", line, 366, 0, 0, 0, 0, 0, 252);
        line.sample(1, 255);
        check.seen("of 255", line, 4, 252, 252, 0, 0, 0, 252);
        line.sample(2, 248);
        check.seen("of 248", line, 4, 252, 252, 0, 0, 0, 245);
    }

    private void unchangedByOtherCalls() {
        check.sentence("the sample that was told last");
        Line line = new Line(1, 8, 0);
        line.sample(0, 10);
        line.endRow();
        line.sample(0, 12);
        int[] due = {9 * 3 - 3, 10, 10, 10, 0, 10, 12};
        check.seen("of it", line, due);
        line.endRow();
        check.seen("behind endRow()", line, due);
        line.state(1, 366, 0);
        line.setting(9);
        line.quantised(-5);
        line.runs();
        check.seen("behind what only asks", line, due);
    }

    private void unchangedByRefusedCalls() {
        check.sentence("a call that throws changes nothing");
        Line line = new Line(2, 8, 0);
        line.back(0, 9);
        int[] due = {366, 0, 0, 0, 0, 0, 5};
        check.refused("the coder's wrong sample", () -> line.sample(0, 256), Check.ARGUMENT);
        check.refused("the coder's wrong place", () -> line.sample(1, 7), Check.STATE);
        check.refused("RUN where none is", () -> line.back(1, RUN), Check.ARGUMENT);
        check.refused("an error that is another one", () -> line.back(1, 256), Check.ARGUMENT);
        check.refused("no neighbour", () -> line.neighbour(5), Check.INDEX);
        check.seen("behind them", line, due);
        check.same("the next", line.back(1, 0), 5);
    }

    private void neighboursThatAreNone() {
        check.sentence("neighbour: a, b, c, d (k = 0 to 3), what was rebuilt (4). IndexOutOfBounds: there is no such thing");
        Line fresh = new Line(2, 8, 0);
        Line told = new Line(2, 8, 0);
        told.sample(0, 9);
        Line inRun = new Line(2, 8, 0);
        inRun.back(0, RUN);
        for (Line line : new Line[] {fresh, told, inRun}) {
            for (int k : new int[] {Integer.MIN_VALUE, -5, -1, 5, 6, Integer.MAX_VALUE}) {
                check.refused("neighbour(" + k + ")", () -> line.neighbour(k), Check.INDEX);
            }
            check.same("neighbour(0)", line.neighbour(0), 0);
        }
        check.same("neighbour(4)", told.neighbour(4), 9);
    }
}
