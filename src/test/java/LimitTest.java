/** Of 'What it is': an object answers for 512 calls, the last of them as right as the first. */
public final class LimitTest {
    private static final int RUN = LinePredict.RUN;

    private final Check check = new Check();

    public static void main(String[] args) {
        LimitTest test = new LimitTest();
        test.samplesOfOneRow();
        test.errorsOfOneRow();
        test.runOfOneRow();
        test.flatAtTheLastCall();
        test.rowOfAllCalls();
        test.longRowsAbove();
        test.rowsOfOne();
        test.check.finish();
    }

    private void samplesOfOneRow() {
        check.sentence("An object is used for at most 512 calls after it has been made");
        for (int width : new int[] {512, 513, 1024, 65536}) {
            Line line = new Line(width, 8, 0);
            check.same("sample(0)", line.sample(0, 100), 199);
            for (int x = 1; x < 511; x++) {
                check.same("sample(" + x + ")", line.sample(x, 100), 0);
            }
            check.same("the 512th call, of width " + width, line.sample(511, 101), 1);
        }
    }

    private void errorsOfOneRow() {
        check.sentence("An object is used for at most 512 calls after it has been made");
        for (int width : new int[] {512, 513, 1024, 65536}) {
            Line line = new Line(width, 8, 0);
            check.same("back(0)", line.back(0, 199), 100);
            for (int x = 1; x < 511; x++) {
                check.same("back(" + x + ")", line.back(x, 0), 100);
            }
            check.same("the 512th call, of width " + width, line.back(511, 1), 101);
        }
    }

    private void runOfOneRow() {
        check.sentence("the run goes on (till the row ends)");
        Line line = new Line(65536, 8, 0);
        for (int x = 0; x < 255; x++) {
            check.same("sample(" + x + ")", line.sample(x, 0), RUN);
            check.same("back(" + x + ")", line.back(x, RUN), 0);
        }
        check.same("runs()", line.runs(), 2);
        check.same("its end", line.sample(255, 9), 17);
    }

    /** The 512th sample is flat, as its a is 0 and so is all that is above, its d at place 512 too. */
    private void flatAtTheLastCall() {
        check.sentence("Above the first row all are 0");
        Line coder = new Line(65536, 8, 0);
        Line decoder = new Line(65536, 8, 0);
        for (int x = 0; x < 511; x++) {
            decoder.back(x, coder.sample(x, x == 509 ? 5 : 0));
        }
        check.same("the coder's 512th call", coder.sample(511, 0), RUN);
        check.same("the decoder's 512th call", Check.answer(() -> decoder.back(511, RUN)), 0);
    }

    private void rowOfAllCalls() {
        check.sentence("Each side whose row is whole goes to the next one");
        Line line = new Line(510, 8, 0);
        for (int x = 0; x < 510; x++) {
            line.sample(x, 7);
        }
        check.same("endRow() as the 511th call", line.endRow(), true);
        check.same("the 512th call", line.sample(0, 7), 0);
    }

    /** Row 0 counts up; near the end of row 1 its samples are still known, on the coder's side and the decoder's. */
    private void longRowsAbove() {
        check.sentence("A sample's NEIGHBOURS are rebuilt ones");
        int width = 250;
        Line coder = new Line(width, 8, 0);
        Line decoder = new Line(width, 8, 0);
        for (int y = 0; y < 2; y++) {
            for (int x = 0; x < width; x++) {
                decoder.back(x, coder.sample(x, x + 3 * y));
            }
            if (y == 0) {
                coder.endRow();
                decoder.endRow();
            }
        }
        int[] due = {251, 249, 248, 249, 252};
        for (int k = 0; k < due.length; k++) {
            check.same("the coder's neighbour(" + k + ")", coder.neighbour(k), due[k]);
            check.same("the decoder's neighbour(" + k + ")", decoder.neighbour(k), due[k]);
        }
    }

    private void rowsOfOne() {
        check.sentence("Each side whose row is whole goes to the next one");
        Line line = new Line(1, 8, 0);
        for (int y = 0; y < 255; y++) {
            line.sample(0, y);
            check.same("endRow()", line.endRow(), true);
        }
        check.settings(line, 7, 0, 255);
    }
}
