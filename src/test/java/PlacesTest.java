/** Promises 4 to 6: whose turn it is, the neighbours at a row's ends and in the first rows, and going to the next row. */
public final class PlacesTest {
    private static final int LEAST = Integer.MIN_VALUE;
    private static final int MOST = Integer.MAX_VALUE;
    private static final int RUN = LinePredict.RUN;

    private final Check check = new Check();

    public static void main(String[] args) {
        PlacesTest test = new PlacesTest();
        test.coderNotThatPlace();
        test.decoderNotThatPlace();
        test.coderRowIsWhole();
        test.decoderRowIsWhole();
        test.sampleIsNone();
        test.placeBeforeNumber();
        test.aboveTheFirstRow();
        test.beforeTheFirstOfARow();
        test.behindTheLastOne();
        test.rowsOfOne();
        test.endRowOfNone();
        test.endRowOfTheCoder();
        test.endRowOfTheDecoder();
        test.endRowOfBoth();
        test.endRowTellsNothing();
        test.sidesKeepTheirOwnRows();
        test.check.finish();
    }

    private void coderNotThatPlace() {
        check.sentence("sample: IllegalState: x is not that place");
        Line line = new Line(3, 8, 0);
        for (int place = 0; place < 3; place++) {
            for (int x : new int[] {LEAST, -1, place - 1, place + 1, 3, 65536, MOST}) {
                check.refused("place " + x + " at " + place, () -> line.sample(x, 5), Check.STATE);
            }
            check.same("the place", line.setting(7), place);
            line.sample(place, 5);
        }
    }

    private void decoderNotThatPlace() {
        check.sentence("back: IllegalState as for sample()");
        Line line = new Line(3, 8, 0);
        for (int place = 0; place < 3; place++) {
            for (int x : new int[] {LEAST, -1, place - 1, place + 1, 3, 65536, MOST}) {
                check.refused("place " + x + " at " + place, () -> line.back(x, 1), Check.STATE);
                check.refused("RUN at place " + x + " at " + place, () -> line.back(x, RUN), Check.STATE);
            }
            check.same("the place", line.setting(9), place);
            line.back(place, 1);
        }
    }

    private void coderRowIsWhole() {
        check.sentence("sample: IllegalState: the row is whole");
        Line line = new Line(2, 8, 0);
        line.sample(0, 5);
        line.sample(1, 5);
        for (int x : new int[] {-1, 0, 1, 2, 3}) {
            check.refused("place " + x, () -> line.sample(x, 5), Check.STATE);
        }
        check.same("endRow()", line.endRow(), true);
        check.refused("the place behind the last", () -> line.sample(2, 5), Check.STATE);
        check.same("the next row's first", line.sample(0, 5), 0);
    }

    private void decoderRowIsWhole() {
        check.sentence("back: IllegalState as for sample()");
        Line line = new Line(2, 8, 0);
        line.back(0, 9);
        line.back(1, 0);
        for (int x : new int[] {-1, 0, 1, 2, 3}) {
            check.refused("place " + x, () -> line.back(x, 0), Check.STATE);
            check.refused("RUN at place " + x, () -> line.back(x, RUN), Check.STATE);
        }
        check.same("endRow()", line.endRow(), true);
        check.refused("the place behind the last", () -> line.back(2, 0), Check.STATE);
        check.same("the next row's first", line.back(0, 0), 5);
    }

    private void sampleIsNone() {
        check.sentence("sample: IllegalArgument: v is not 0 .. MAX");
        int[][] bitsAndMax = {{2, 3}, {4, 15}, {8, 255}, {16, 65535}};
        for (int[] row : bitsAndMax) {
            Line line = new Line(3, row[0], 0);
            for (int v : new int[] {LEAST, -1, row[1] + 1, MOST}) {
                check.refused("sample " + v + " of " + row[0] + " bits", () -> line.sample(0, v), Check.ARGUMENT);
            }
            line.sample(0, row[1]);
            check.same("MAX", line.neighbour(4), row[1]);
            for (int v : new int[] {LEAST, -1, row[1] + 1, MOST}) {
                check.refused("sample " + v + " of " + row[0] + " bits", () -> line.sample(1, v), Check.ARGUMENT);
            }
            line.sample(1, 0);
            check.same("0", line.neighbour(4), 0);
        }
        Line inRun = new Line(3, 8, 3);
        check.refused("-1, which is near 0", () -> inRun.sample(0, -1), Check.ARGUMENT);
        Line atMax = new Line(3, 8, 3);
        atMax.sample(0, 255);
        check.refused("256, which is near 255", () -> atMax.sample(1, 256), Check.ARGUMENT);
    }

    private void placeBeforeNumber() {
        check.sentence("The first that fits");
        Line line = new Line(1, 8, 0);
        check.refused("a wrong place and a wrong sample", () -> line.sample(1, 256), Check.STATE);
        check.refused("a wrong place and a wrong error", () -> line.back(1, 257), Check.STATE);
        check.refused("a wrong place and an error that is another one", () -> line.back(1, 256), Check.STATE);
        line.sample(0, 5);
        line.back(0, 9);
        for (int x = 0; x < 2; x++) {
            int place = x;
            check.refused("a whole row and a wrong sample", () -> line.sample(place, -1), Check.STATE);
            check.refused("a whole row and a wrong error", () -> line.back(place, -1), Check.STATE);
            check.refused("a whole row and RUN", () -> line.back(place, RUN), Check.STATE);
        }
    }

    private void aboveTheFirstRow() {
        check.sentence("Above the first row all are 0");
        Pair pair = new Pair(check, 3, 8, 0);
        pair.tellSeen(10, 366, 0, 0, 0, 0, 0, 10);
        pair.tellSeen(20, 3, 10, 10, 0, 0, 0, 20);
        // e was -10, so that C is -1, and SIGN is -1.
        pair.tellSeen(30, 3, 21, 20, 0, 0, 0, 30);
    }

    private void beforeTheFirstOfARow() {
        check.sentence("Before the first one of a row a is b, and c is what is above b (0 above the first row)");
        Pair pair = new Pair(check, 2, 8, 0);
        pair.tell(10, 20);
        pair.tellSeen(40, 81 * 3 + 9 * 3 - 3, 10, 10, 10, 0, 20, 40);
        pair.tell(50);
        // b is 40 and c the 10 above it: gradients 10, 30, -30.
        pair.tellSeen(70, 81 * 3 + 9 * 4 - 4, 40, 40, 40, 10, 50, 70);
        pair.tell(80);
        pair.tellSeen(90, 81 * 3 + 9 * 4 - 4, 71, 70, 70, 40, 80, 90);
    }

    private void behindTheLastOne() {
        check.sentence("behind the last one d is b");
        Pair pair = new Pair(check, 3, 8, 0);
        pair.tell(10, 20, 30, 40);
        pair.tellSeen(50, 81 * 3 + 9 * 3 - 4, 40, 40, 20, 10, 30, 50);
        pair.tellSeen(60, 9 * 3 - 4, 50, 50, 30, 20, 30, 60);
    }

    private void rowsOfOne() {
        check.sentence("a is b, c is what is above b, d is b");
        Pair pair = new Pair(check, 1, 8, 0);
        pair.tellSeen(5, 366, 0, 0, 0, 0, 0, 5);
        pair.tellSeen(7, 9 * 2 - 2, 5, 5, 5, 0, 5, 7);
        pair.tellSeen(9, 8, 7, 7, 7, 5, 7, 9);
        pair.tellSeen(9, 8, 10, 9, 9, 7, 9, 9);
        pair.tellSeen(9, 0, 9, 9, 9, 9, 9, 9);
    }

    private void endRowOfNone() {
        check.sentence("endRow: whether any does");
        Line line = new Line(2, 8, 0);
        check.same("endRow() at first", line.endRow(), false);
        line.sample(0, 5);
        check.same("endRow() in the coder's row", line.endRow(), false);
        line.back(0, 9);
        check.same("endRow() in both rows", line.endRow(), false);
        check.settings(line, 7, 1, 0, 1, 0);
        check.same("the row goes on", line.sample(1, 5), 0);
        check.seen("of the row that goes on", line, 2, 5, 5, 0, 0, 0, 5);
    }

    private void endRowOfTheCoder() {
        check.sentence("Each side whose row is whole goes to the next one");
        Line line = new Line(2, 8, 0);
        line.sample(0, 5);
        line.sample(1, 6);
        line.back(0, 9);
        check.same("endRow()", line.endRow(), true);
        check.settings(line, 7, 0, 1, 1, 0);
        check.same("endRow() again", line.endRow(), false);
        check.settings(line, 7, 0, 1, 1, 0);
        check.same("the decoder's row goes on", line.back(1, 1), 6);
        line.sample(0, 5);
        check.seen("of the coder's next row", line, 81 + 9 * 2 - 2, 5, 5, 5, 0, 6, 5);
    }

    private void endRowOfTheDecoder() {
        check.sentence("Each side whose row is whole goes to the next one");
        Line line = new Line(2, 8, 0);
        line.back(0, 9);
        line.back(1, 1);
        line.sample(0, 5);
        check.same("endRow()", line.endRow(), true);
        check.settings(line, 7, 1, 0, 0, 1);
        check.same("endRow() again", line.endRow(), false);
        check.settings(line, 7, 1, 0, 0, 1);
        check.same("the coder's row goes on", line.sample(1, 6), 1);
        check.same("the decoder's next row", line.back(0, 0), 5);
        check.seen("of the decoder's next row", line, 81 + 9 * 2 - 2, 5, 5, 5, 0, 6, 5);
    }

    private void endRowOfBoth() {
        check.sentence("Each side whose row is whole goes to the next one");
        Line line = new Line(1, 8, 0);
        for (int row = 1; row < 4; row++) {
            line.sample(0, 5);
            line.back(0, row == 1 ? 9 : row == 2 ? 0 : RUN);
            check.same("endRow()", line.endRow(), true);
            check.settings(line, 7, 0, row, 0, row);
            check.same("endRow() again", line.endRow(), false);
        }
    }

    private void endRowTellsNothing() {
        check.sentence("context: The context of the sample that was told last");
        Line line = new Line(1, 8, 0);
        line.sample(0, 5);
        line.endRow();
        line.endRow();
        check.seen("behind endRow()", line, 366, 0, 0, 0, 0, 0, 5);
        check.same("runs()", line.runs(), 1);
        check.state(line, 0, 366, 8, 0, 0, 2);
    }

    /** The coder is two rows ahead; each side sees what it rebuilt itself. */
    private void sidesKeepTheirOwnRows() {
        check.sentence("There is a CODER and a DECODER, each with rows of REBUILT samples, and contexts");
        Line line = new Line(2, 8, 0);
        int[] ahead = {100, 110, 120, 130};
        for (int i = 0; i < 4; i++) {
            line.sample(i % 2, ahead[i]);
            line.endRow();
        }
        check.same("the decoder's first", line.back(0, 9), 5);
        check.seen("of the decoder's first", line, 366, 0, 0, 0, 0, 0, 5);
        check.same("the decoder's second", line.back(1, 1), 6);
        check.same("endRow()", line.endRow(), true);
        check.settings(line, 7, 0, 2, 0, 1);
        line.back(0, 0);
        check.seen("of the decoder's next row", line, 81 + 9 * 2 - 2, 5, 5, 5, 0, 6, 5);
        line.sample(0, 120);
        check.seen("of the coder's third row", line, 81 * 3 + 9 * 3 - 3, 120, 120, 120, 100, 130, 120);
        // 100 was told as 199: A is more by half of it, downward.
        check.state(line, 0, 366, 103, 0, 0, 2);
        check.state(line, 1, 366, 8, 0, 0, 2);
    }
}
