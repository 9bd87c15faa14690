/** Of 'Terms' the gradients' numbers, CONTEXT, SIGN and PREDICTED; both sides are to see the same. */
public final class GradientsTest {
    /** With thresholds 5, 9, 14: a gradient and its number, on both sides of each of the limits. */
    private static final int[][] NUMBERS = {
        {-90, -4}, {-15, -4}, {-14, -4}, {-13, -3}, {-10, -3}, {-9, -3}, {-8, -2}, {-6, -2}, {-5, -2}, {-4, -1}, {-1, -1},
        {1, 1}, {4, 1}, {5, 2}, {6, 2}, {8, 2}, {9, 3}, {10, 3}, {13, 3}, {14, 4}, {15, 4}, {90, 4}};

    private final Check check = new Check();

    public static void main(String[] args) {
        GradientsTest test = new GradientsTest();
        test.firstGradient();
        test.secondGradient();
        test.thirdGradient();
        test.numbersByNear();
        test.thresholdsThatAreOne();
        test.firstAndLastContext();
        test.signByTheFirstThatIsNotFlat();
        test.predictedByThree();
        test.correctedBySign();
        test.check.finish();
    }

    /** Two rows of three, the second one not whole: its second sample has a, b, c, d around it. */
    private Pair above(int a, int b, int c, int d) {
        Pair pair = new Pair(check, 3, 8, 0);
        pair.line.thresholds(5, 9, 14);
        pair.tell(c, b, d, a);
        return pair;
    }

    /** One more than what is predicted: an error of SIGN, which is told as 2 or 1. */
    private void context(Pair pair, int predicted, int context) {
        int rebuilt = predicted + 1;
        pair.tellAs(rebuilt, context > 0 ? 2 : 1, rebuilt);
        check.seen("behind it", pair.line, Math.abs(context), predicted);
    }

    private void firstGradient() {
        check.sentence("-4 if g is at most -T3, .. 4 else; the CONTEXT is 81 times the first");
        for (int[] row : NUMBERS) {
            context(above(100, 100, 100, 100 + row[0]), 100, 81 * row[1]);
        }
    }

    private void secondGradient() {
        check.sentence("-4 if g is at most -T3, .. 4 else; 9 times the second");
        for (int[] row : NUMBERS) {
            int b = 100 + row[0];
            context(above(100, b, 100, b), b, 9 * row[1]);
        }
    }

    private void thirdGradient() {
        check.sentence("-4 if g is at most -T3, .. 4 else; and the third");
        for (int[] row : NUMBERS) {
            int a = 100 - row[0];
            context(above(a, 100, 100, 100), a, row[1]);
        }
    }

    /**
     * Rows that a search with Model found, of 3 bits with NEAR 1 (T1 is 3 there), two samples each; due is the last
     * one's context, predicted, a, b, c, d.
     */
    private void lastOf(int[] samples, int... due) {
        Pair pair = new Pair(check, 2, 3, 1);
        for (int i = 0; i + 1 < samples.length; i++) {
            pair.tell(samples[i]);
        }
        pair.tellSeen(samples[samples.length - 1], due);
    }

    private void numbersByNear() {
        check.sentence("-1 if it is below -NEAR, 0 to NEAR, 1 below T1");
        // -1 and 1 count 0, each as the first, the second and the third gradient.
        lastOf(new int[] {6, 4, 4, 7, 7, 6, 6}, 16, 5, 6, 6, 3, 5);
        lastOf(new int[] {3, 1, 5, 7, 3, 5, 3}, 16, 4, 3, 3, 6, 4);
        lastOf(new int[] {2, 0, 5, 3, 3, 2, 2, 4}, 2, 2, 1, 3, 4, 3);
        lastOf(new int[] {2, 4, 6, 7, 6, 3, 5}, 162, 7, 7, 7, 6, 4);
        lastOf(new int[] {3, 1, 0, 3, 1, 3}, 18, 3, 1, 3, 0, 3);
        lastOf(new int[] {1, 3, 4, 3, 3, 1, 3, 5}, 18, 0, 2, 0, 3, 0);
        // -2 and 2 count -1 and 1.
        lastOf(new int[] {3, 6, 4, 1, 2, 2, 0}, 81, 3, 3, 3, 3, 1);
        lastOf(new int[] {4, 1, 3, 7, 2, 5, 0}, 81, 3, 3, 3, 3, 5);
        lastOf(new int[] {1, 4, 2, 7, 7, 4, 6, 3}, 9, 4, 6, 4, 6, 4);
        lastOf(new int[] {2, 4, 5, 3, 2, 5, 4, 0}, 9, 5, 3, 5, 3, 5);
        lastOf(new int[] {3, 2, 7, 0, 4, 2, 4, 4}, 1, 5, 5, 3, 3, 3);
        lastOf(new int[] {2, 3, 5, 6, 5, 7}, 1, 4, 4, 6, 6, 6);
    }

    /** Where thresholds are the same, the numbers between them are no gradient's. */
    private void thresholdsThatAreOne() {
        check.sentence("-4 if g is at most -T3, -3 to -T2, -2 to -T1, .. 2 below T2, 3 below T3, 4 else");
        int[][] due = {
            {1, 1, 1, 1, 4}, {1, 1, 3, 1, 3}, {1, 3, 3, 2, 2}, {2, 2, 2, 1, 1}, {2, 2, 2, 2, 4}, {2, 2, 9, 2, 3},
            {2, 9, 9, 2, 2}, {255, 255, 255, 90, 1}};
        for (int[] row : due) {
            for (int sign = -1; sign < 2; sign += 2) {
                Pair pair = new Pair(check, 3, 8, 0);
                check.same("thresholds", pair.line.thresholds(row[0], row[1], row[2]), true);
                pair.tell(100, 100, 100 + sign * row[3], 100);
                context(pair, 100, 81 * sign * row[4]);
            }
        }
    }

    private void firstAndLastContext() {
        check.sentence("the CONTEXT; if that is below 0, its opposite");
        above(20, 80, 50, 110).tellSeen(0, 364, 50, 20, 80, 50, 110, 0);
        above(80, 20, 50, 0).tellSeen(0, 364, 50, 80, 20, 50, 0, 0);
        above(99, 100, 100, 100).tellSeen(0, 1, 99, 99, 100, 100, 100, 0);
        above(101, 100, 100, 100).tellSeen(0, 1, 101, 101, 100, 100, 100, 0);
    }

    private void signByTheFirstThatIsNotFlat() {
        check.sentence("if that is below 0, its opposite, and the SIGN is -1, else 1");
        // Gradients 1, -20, -20: 81 - 36 - 4; and -1, 20, 20.
        context(above(120, 80, 100, 81), 100, 41);
        context(above(80, 120, 100, 119), 100, -41);
        // 0, 1, -20, and 0, -1, 20.
        context(above(120, 101, 100, 101), 120, 5);
        context(above(80, 99, 100, 99), 80, -5);
    }

    private void predictedByThree() {
        check.sentence("PREDICTED: if c is not below a and b: the lesser; not above both: the greater; else a + b - c");
        int[][] due = {
            {20, 30, 50, 20}, {30, 20, 50, 20}, {20, 30, 31, 20}, {20, 30, 30, 20}, {30, 20, 30, 20}, {20, 30, 29, 21},
            {30, 20, 29, 21}, {20, 30, 25, 25}, {20, 30, 21, 29}, {30, 20, 21, 29}, {20, 30, 20, 30}, {30, 20, 20, 30},
            {20, 30, 19, 30}, {30, 20, 19, 30}, {30, 20, 1, 30}, {20, 20, 50, 20}, {20, 20, 1, 20}, {255, 0, 100, 155},
            {0, 255, 0, 255}, {255, 255, 0, 255}, {0, 0, 255, 0}};
        for (int[] row : due) {
            // What d is does not count; it is near b, as the first sample of the row has taught other contexts.
            for (int d : new int[] {row[1], Math.max(0, row[1] - 13), Math.min(255, row[1] + 13)}) {
                Pair pair = above(row[0], row[1], row[2], d);
                int context = contextOf(d - row[1], row[1] - row[2], row[2] - row[0]);
                pair.tellSeen(7, context, row[3], row[0], row[1], row[2], d, 7);
            }
        }
    }

    /** The context of three gradients by thresholds 5, 9, 14. */
    private static int contextOf(int g, int h, int i) {
        return Math.abs(81 * numberOf(g) + 9 * numberOf(h) + numberOf(i));
    }

    private static int numberOf(int g) {
        int size = Math.abs(g);
        return Integer.signum(g) * (size == 0 ? 0 : size < 5 ? 1 : size < 9 ? 2 : size < 14 ? 3 : 4);
    }

    /** A column, where a = b = d: its context is 32 if the last step was 21 or more, and SIGN is that step's. */
    private void correctedBySign() {
        check.sentence("To that C times SIGN is added; then it is brought to 0 .. MAX");
        Pair pair = new Pair(check, 1, 8, 0);
        pair.tellSeen(100, 366, 0);
        pair.tellSeen(150, 32, 100);
        pair.learnt(32, 54, 0, 1, 2);
        pair.tellSeen(254, 32, 151);
        pair.learnt(32, 157, 0, 2, 3);
        // 254 + 2 is brought to 255.
        pair.tellSeen(255, 32, 255);
        pair.learnt(32, 157, 0, 2, 4);
        pair.tellSeen(100, 8, 255);
        pair.tellSeen(1, 32, 98);
        pair.learnt(32, 254, 0, 3, 5);
        // 1 - 3 is brought to 0.
        pair.tellSeen(70, 32, 0);
        // e is -70, and C is 2; SIGN is 1 again.
        pair.learnt(32, 324, -5, 2, 6);
        pair.tellSeen(70, 32, 72);
    }
}
