/** The README's example answers what the README says beside it. */
public final class ReadmeTest {
    public static void main(String[] args) {
        Check check = new Check();
        check.sentence("README, 'How to use it'");
        Line line = new Line(4, 8, 0);
        check.same("thresholds", line.thresholds(3, 7, 21), true);
        check.same("reset", line.reset(64), true);

        int[] row = {0, 0, 90, 74};
        // 90 ends the run with context 366: K is not 0, TURN 0, so 2 * 90 - 1. 74 is 16 below a, the greater, and
        // the one gradient that is not 0, c - a, is below 0: SIGN makes its error 16, which folds to 32.
        int[] folded = {LinePredict.RUN, LinePredict.RUN, 179, 32};
        for (int x = 0; x < row.length; x++) {
            check.same("sample(" + x + ", " + row[x] + ")", line.sample(x, row[x]), folded[x]);
            check.same("back(" + x + ", " + folded[x] + ")", line.back(x, folded[x]), row[x]);
        }
        check.same("endRow()", line.endRow(), true);
        check.finish();
    }
}
