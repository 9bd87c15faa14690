/** Promise 1, and of 'Terms' what is so from the first: the numbers it is made with, thresholds, contexts. */
public final class NewObjectTest {
    private static final int LEAST = Integer.MIN_VALUE;
    private static final int MOST = Integer.MAX_VALUE;

    private final Check check = new Check();

    public static void main(String[] args) {
        NewObjectTest test = new NewObjectTest();
        test.bothSidesAtTheFirstSample();
        test.nothingToldYet();
        test.widthNotBelowOne();
        test.widthAboveTheLongestRow();
        test.bits();
        test.nearNotBelowZero();
        test.nearAtMost255();
        test.nearAtMostHalfOfMax();
        test.range();
        test.thresholdsFrom128();
        test.thresholdsBelow128();
        test.thresholdsAboveMax();
        test.resetAtFirst();
        test.sizeAtFirst();
        test.everyContextAtFirst();
        test.check.finish();
    }

    private void bothSidesAtTheFirstSample() {
        check.sentence("Both sides are at the first sample of the first row");
        Line line = new Line(2, 8, 0);
        check.settings(line, 7, 0, 0, 0, 0);
        check.refused("the coder's second one", () -> line.sample(1, 0), Check.STATE);
        check.refused("the decoder's second one", () -> line.back(1, 0), Check.STATE);
        check.same("the coder's first one", line.sample(0, 5), 9);
        check.same("the decoder's first one", line.back(0, 9), 5);
    }

    private void nothingToldYet() {
        check.sentence("0 before the first");
        Line line = new Line(2, 8, 0);
        check.seen("before the first", line, 0, 0, 0, 0, 0, 0, 0);
        check.same("runs()", line.runs(), 0);
    }

    private void widthNotBelowOne() {
        check.sentence("WIDTH (1 .. 65536), other numbers count as the nearest ones that may be");
        for (int width : new int[] {LEAST, -1, 0, 1}) {
            Line line = new Line(width, 8, 0);
            line.sample(0, 9);
            line.back(0, 9);
            check.refused("the coder's second one of width " + width, () -> line.sample(1, 0), Check.STATE);
            check.refused("the decoder's second one of width " + width, () -> line.back(1, 0), Check.STATE);
            check.same("endRow() of width " + width, line.endRow(), true);
            check.settings(line, 7, 0, 1, 0, 1);
        }
        Line two = new Line(2, 8, 0);
        two.sample(0, 9);
        check.same("endRow() of width 2 after one", two.endRow(), false);
        two.sample(1, 9);
        check.same("endRow() of width 2 after two", two.endRow(), true);
    }

    /** No object's 512 calls come to the end of such a row: all that can be seen is that it is longer than they are. */
    private void widthAboveTheLongestRow() {
        check.sentence("WIDTH (1 .. 65536), other numbers count as the nearest ones that may be");
        for (int width : new int[] {65535, 65536, 65537, MOST}) {
            Line line = new Line(width, 8, 0);
            for (int x = 0; x < 509; x++) {
                line.sample(x, 7);
            }
            check.same("endRow() of width " + width, line.endRow(), false);
            check.settings(line, 7, 509, 0);
        }
    }

    private void bits() {
        check.sentence("BITS (2 .. 16), MAX = 2^bits - 1");
        int[][] due = {
            {LEAST, 3}, {-1, 3}, {0, 3}, {1, 3}, {2, 3}, {3, 7}, {4, 15}, {5, 31}, {6, 63}, {7, 127}, {8, 255}, {9, 511},
            {10, 1023}, {11, 2047}, {12, 4095}, {13, 8191}, {14, 16383}, {15, 32767}, {16, 65535}, {17, 65535},
            {31, 65535}, {32, 65535}, {MOST, 65535}};
        for (int[] row : due) {
            Line line = new Line(1, row[0], 0);
            check.same("MAX of " + row[0] + " bits", line.setting(0), row[1]);
            check.refused("a sample above MAX", () -> line.sample(0, row[1] + 1), Check.ARGUMENT);
            line.sample(0, row[1]);
            check.same("the sample MAX rebuilt", line.neighbour(4), row[1]);
        }
    }

    private void near(int bits, int near, int due) {
        check.same("NEAR of " + bits + " bits and " + near, new Line(1, bits, near).setting(2), due);
    }

    private void nearNotBelowZero() {
        check.sentence("NEAR (0 .. 255), other numbers count as the nearest ones that may be");
        near(8, LEAST, 0);
        near(8, -1, 0);
        near(8, 0, 0);
        near(8, 1, 1);
    }

    private void nearAtMost255() {
        check.sentence("NEAR (0 .. 255), other numbers count as the nearest ones that may be");
        for (int bits : new int[] {9, 10, 16, 99}) {
            near(bits, 254, 254);
            near(bits, 255, 255);
            near(bits, 256, 255);
            near(bits, MOST, 255);
        }
    }

    private void nearAtMostHalfOfMax() {
        check.sentence("NEAR at most half of MAX, downward");
        int[][] halves = {{2, 1}, {3, 3}, {4, 7}, {5, 15}, {6, 31}, {7, 63}, {8, 127}};
        for (int[] half : halves) {
            near(half[0], half[1] - 1, half[1] - 1);
            near(half[0], half[1], half[1]);
            near(half[0], half[1] + 1, half[1]);
            near(half[0], 255, half[1]);
            near(half[0], MOST, half[1]);
        }
        // The bits are brought to 2 first.
        near(1, 2, 1);
        near(LEAST, MOST, 1);
    }

    private void range() {
        check.sentence("STEP = 2 NEAR + 1. RANGE = (MAX + 2 NEAR) / STEP + 1");
        int[][] due = {
            {2, 0, 4}, {2, 1, 2}, {3, 0, 8}, {3, 1, 4}, {3, 2, 3}, {3, 3, 2}, {4, 1, 6}, {4, 2, 4}, {8, 0, 256}, {8, 1, 86},
            {8, 2, 52}, {8, 3, 38}, {8, 126, 3}, {8, 127, 2}, {9, 255, 2}, {16, 0, 65536}, {16, 1, 21846}, {16, 255, 130}};
        for (int[] row : due) {
            check.same("RANGE of " + row[0] + " bits, NEAR " + row[1], new Line(1, row[0], row[1]).setting(1), row[2]);
        }
    }

    private void thresholds(int bits, int near, int... due) {
        check.settings(new Line(1, bits, near), 2, near, due[0], due[1], due[2]);
    }

    private void thresholdsFrom128() {
        check.sentence("F = (the lesser of MAX and 4095, and 128) / 256, if MAX is 128 or more");
        thresholds(8, 0, 3, 7, 21);
        thresholds(8, 3, 12, 22, 42);
        thresholds(9, 0, 4, 11, 38);
        thresholds(10, 0, 6, 19, 72);
        thresholds(11, 0, 10, 35, 140);
        thresholds(12, 0, 18, 67, 276);
        // MAX is 8191 and more here, but 4095 is counted.
        thresholds(13, 0, 18, 67, 276);
        thresholds(14, 1, 21, 72, 283);
        thresholds(16, 0, 18, 67, 276);
        thresholds(16, 255, 783, 1342, 2061);
    }

    private void thresholdsBelow128() {
        check.sentence("else, with F = 256 / (MAX + 1): the greater of 2 and 3 / F + 3 NEAR, and so on");
        thresholds(7, 0, 2, 3, 10);
        thresholds(7, 1, 4, 8, 17);
        thresholds(6, 0, 2, 3, 5);
        thresholds(6, 1, 3, 6, 12);
        thresholds(5, 0, 2, 3, 4);
        thresholds(5, 1, 3, 5, 9);
        thresholds(4, 0, 2, 3, 4);
        thresholds(3, 0, 2, 3, 4);
        thresholds(3, 1, 3, 5, 7);
    }

    /** Each of the three at MAX, where it stays, and above MAX, where it is the one before it. */
    private void thresholdsAboveMax() {
        check.sentence("T1 is NEAR + 1, T2 is T1, T3 is T2, when it would be less than that, or above MAX");
        thresholds(4, 2, 6, 10, 15);
        thresholds(4, 3, 9, 15, 15);
        thresholds(4, 4, 12, 12, 12);
        thresholds(4, 5, 15, 15, 15);
        thresholds(4, 6, 7, 7, 7);
        thresholds(2, 0, 2, 3, 3);
        thresholds(2, 1, 3, 3, 3);
        thresholds(3, 2, 6, 6, 6);
        thresholds(3, 3, 4, 4, 4);
        thresholds(8, 33, 102, 172, 252);
        thresholds(8, 34, 105, 177, 177);
        thresholds(8, 49, 150, 252, 252);
        thresholds(8, 50, 153, 153, 153);
        thresholds(8, 84, 255, 255, 255);
        thresholds(8, 85, 86, 86, 86);
        thresholds(8, 127, 128, 128, 128);
        thresholds(9, 100, 304, 511, 511);
        thresholds(9, 101, 307, 307, 307);
        thresholds(9, 169, 511, 511, 511);
        thresholds(9, 170, 171, 171, 171);
    }

    private void resetAtFirst() {
        check.sentence("RESET is at first 64");
        for (int bits : new int[] {2, 8, 16}) {
            check.same("setting(6)", new Line(1, bits, 1).setting(6), 64);
        }
    }

    private void sizeAtFirst() {
        check.sentence("A = the greater of 2 and (RANGE + 32) / 64");
        // RANGE is 65536, 256, 128, 2; then 160, which is 3 times 64 less 32, and 159.
        int[][] due = {{16, 0, 1024}, {8, 0, 4}, {7, 0, 2}, {2, 1, 2}, {16, 206, 3}, {16, 207, 2}};
        for (int[] row : due) {
            Line line = new Line(1, row[0], row[1]);
            for (int side = 0; side < 2; side++) {
                for (int q : new int[] {1, 364, 365, 366}) {
                    check.state(line, side, q, row[2], 0, 0, 1);
                }
            }
        }
    }

    private void everyContextAtFirst() {
        check.sentence("contexts 1 .. 366. A context has A, N = 1, and (to 364) B = C = 0, (365, 366) M = 0");
        for (int q = 1; q <= 366; q++) {
            Line line = new Line(1, 9, 0);
            check.state(line, 0, q, 8, 0, 0, 1);
            check.state(line, 1, q, 8, 0, 0, 1);
        }
    }
}
