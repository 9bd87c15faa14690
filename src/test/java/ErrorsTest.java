/** Of 'Terms' the ERROR: QUANTISED (and promise 12), REBUILT, brought by RANGE, FOLDED; and its way back. */
public final class ErrorsTest {
    private final Check check = new Check();

    public static void main(String[] args) {
        ErrorsTest test = new ErrorsTest();
        test.quantisedByNear();
        test.quantisedWithoutNear();
        test.quantisedLimits();
        test.quantisedInSamples();
        test.rebuiltAtMostMax();
        test.rebuiltNotBelowZero();
        test.evenRangeFromAbove();
        test.evenRangeFromBelow();
        test.oddRangeFromAbove();
        test.oddRangeFromBelow();
        test.rangeOfTwo();
        test.greatestRange();
        test.foldedBelowAndAbove();
        test.check.finish();
    }

    private void quantised(int bits, int near, int[][] due) {
        Line line = new Line(3, bits, near);
        for (int[] row : due) {
            check.same("quantised(" + row[0] + ") with NEAR " + near, line.quantised(row[0]), row[1]);
            check.same("quantised(" + -row[0] + ") with NEAR " + near, line.quantised(-row[0]), -row[1]);
        }
    }

    private void quantisedByNear() {
        check.sentence("QUANTISED: (e + NEAR) / STEP, for e below 0 the opposite of -e so");
        quantised(8, 3, new int[][] {{0, 0}, {1, 0}, {3, 0}, {4, 1}, {10, 1}, {11, 2}, {17, 2}, {18, 3}, {70000, 10000}});
        quantised(8, 1, new int[][] {{1, 0}, {2, 1}, {4, 1}, {5, 2}, {69998, 23333}, {70000, 23333}});
        quantised(16, 255, new int[][] {{255, 0}, {256, 1}, {766, 1}, {767, 2}, {70000, 137}});
        quantised(2, 1, new int[][] {{1, 0}, {2, 1}, {3, 1}, {70000, 23333}});
    }

    private void quantisedWithoutNear() {
        check.sentence("QUANTISED: (e + NEAR) / STEP");
        quantised(8, 0, new int[][] {{0, 0}, {1, 1}, {2, 2}, {255, 255}, {256, 256}, {69999, 69999}, {70000, 70000}});
    }

    private void quantisedLimits() {
        check.sentence("An error (-70000 .. 70000) QUANTISED");
        for (int near : new int[] {0, 3, 255}) {
            Line line = new Line(3, 16, near);
            line.quantised(70000);
            line.quantised(-70000);
            for (int error : new int[] {70001, -70001, Integer.MAX_VALUE, Integer.MIN_VALUE, Integer.MIN_VALUE + 1}) {
                check.refused("quantised(" + error + ")", () -> line.quantised(error), Check.ARGUMENT);
            }
        }
    }

    /** 84 is 12 STEPs of 7; behind it 84 is predicted, with SIGN -1. */
    private void quantisedInSamples() {
        check.sentence("ERROR e = SIGN times (the sample less what was predicted), QUANTISED");
        int[][] due = {{81, 0, 84}, {80, 2, 77}, {74, 2, 77}, {73, 4, 70}, {87, 0, 84}, {88, 1, 91}, {94, 1, 91}, {95, 3, 98}};
        for (int[] row : due) {
            Pair pair = new Pair(check, 4, 8, 3);
            pair.tellAs(84, 23, 84);
            pair.tellAs(row[0], row[1], row[2]);
        }
    }

    /** With NEAR 6, 255 is 20 STEPs of 13 from 0, which would be 260. */
    private void rebuiltAtMostMax() {
        check.sentence("REBUILT: what was predicted, and SIGN e STEP, brought to 0 .. MAX");
        Pair pair = new Pair(check, 4, 8, 6);
        pair.tellAs(255, 0, 255);
        check.seen("at MAX", pair.line, 366, 0, 0, 0, 0, 0, 255);
        Pair less = new Pair(check, 4, 8, 6);
        less.tellAs(254, 0, 255);
        Pair below = new Pair(check, 4, 8, 6);
        below.tellAs(253, 2, 247);
    }

    private void rebuiltNotBelowZero() {
        check.sentence("REBUILT: what was predicted, and SIGN e STEP, brought to 0 .. MAX");
        int[][] due = {{0, 1, 0}, {1, 1, 0}, {2, 3, 8}};
        for (int[] row : due) {
            Pair pair = new Pair(check, 4, 8, 6);
            pair.tellAs(255, 0, 255);
            pair.tellAs(row[0], row[1], row[2]);
        }
    }

    /** The second sample of a first row: the first one is predicted with SIGN -1, so that e is the first less the second. */
    private void second(int bits, int near, int first, int sample, int folded, int rebuilt) {
        Pair pair = new Pair(check, 4, bits, near);
        pair.tell(first);
        pair.tellAs(sample, folded, rebuilt);
    }

    private void evenRangeFromAbove() {
        check.sentence("less by RANGE then, if it is (RANGE + 1) / 2 or more");
        second(8, 0, 200, 74, 252, 74);
        second(8, 0, 200, 73, 254, 73);
        second(8, 0, 200, 72, 255, 72);
        second(8, 0, 200, 71, 253, 71);
        second(8, 0, 255, 0, 1, 0);
    }

    private void evenRangeFromBelow() {
        check.sentence("Then e is more by RANGE, if it is below 0");
        second(8, 0, 50, 51, 1, 51);
        second(8, 0, 50, 177, 253, 177);
        second(8, 0, 50, 178, 255, 178);
        second(8, 0, 50, 179, 254, 179);
        second(8, 0, 50, 180, 252, 180);
        second(8, 0, 1, 255, 4, 255);
    }

    /** 6 bits with NEAR 8: STEP is 17 and RANGE 5, so that e is -2 .. 2. */
    private void oddRangeFromAbove() {
        check.sentence("less by RANGE then, if it is (RANGE + 1) / 2 or more");
        second(6, 8, 43, 26, 2, 34);
        second(6, 8, 43, 25, 4, 17);
        second(6, 8, 43, 9, 4, 17);
        second(6, 8, 43, 8, 3, 0);
        second(6, 8, 43, 0, 3, 0);
        second(6, 8, 63, 4, 3, 12);
        second(6, 8, 63, 3, 1, 0);
    }

    private void oddRangeFromBelow() {
        check.sentence("Then e is more by RANGE, if it is below 0");
        second(6, 8, 17, 42, 1, 34);
        second(6, 8, 17, 43, 3, 51);
        second(6, 8, 17, 59, 3, 51);
        second(6, 8, 17, 60, 4, 63);
        second(6, 8, 17, 63, 4, 63);
    }

    /** NEAR at half of MAX: RANGE is 2, and e is -1 or 0. */
    private void rangeOfTwo() {
        check.sentence("RANGE = (MAX + 2 NEAR) / STEP + 1; less by RANGE then, if it is (RANGE + 1) / 2 or more");
        Pair pair = new Pair(check, 4, 2, 1);
        pair.tellAs(2, 0, 3);
        pair.tellAs(2, 0, 3);
        pair.tellAs(1, 1, 0);
        pair.tellAs(1, LinePredict.RUN, 0);
        Pair wide = new Pair(check, 4, 9, 255);
        wide.tellAs(256, 0, 511);
        wide.tellAs(256, 0, 511);
        wide.tellAs(255, 1, 0);
        wide.tellAs(255, LinePredict.RUN, 0);
    }

    private void greatestRange() {
        check.sentence("MAX = 2^bits - 1; less by RANGE then, if it is (RANGE + 1) / 2 or more");
        second(16, 0, 65535, 32768, 65534, 32768);
        second(16, 0, 65535, 32767, 65535, 32767);
        second(16, 0, 65535, 0, 1, 0);
        second(16, 0, 300, 33067, 65533, 33067);
        second(16, 0, 300, 33068, 65535, 33068);
        second(16, 0, 300, 33069, 65534, 33069);
    }

    private void foldedBelowAndAbove() {
        check.sentence("FOLDED: else 2 e, or -2 e - 1");
        second(8, 0, 100, 100, 0, 100);
        second(8, 0, 100, 101, 1, 101);
        second(8, 0, 100, 99, 2, 99);
        second(8, 0, 100, 102, 3, 102);
        second(8, 0, 100, 98, 4, 98);
    }
}
