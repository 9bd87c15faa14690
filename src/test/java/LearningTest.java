/**
 * Of 'Terms' K, FOLDED and LEARNING of the contexts of gradients. In a first row the neighbours b, c and d are 0: with
 * thresholds of MAX every sample behind one that is neither 0 nor MAX has context 1, SIGN is -1, and a - C is
 * predicted. So the errors can be chosen, and both sides are to learn what is due, A, B, C and N.
 */
public final class LearningTest {
    private static final int CONTEXT = 1;

    private final Check check = new Check();
    private Pair pair;
    private int max;
    private int near;
    private int old;
    private int correction;

    public static void main(String[] args) {
        LearningTest test = new LearningTest();
        test.exponentAndFolding();
        test.foldingByNear();
        test.leaningAtItsLimits();
        test.halvedBelowZero();
        test.halvedAboveZero();
        test.halvedAtTheGreatestReset();
        test.halvedAtTheFirstReset();
        test.leaningInSteps();
        test.lastContextOfGradients();
        test.correctionUpTo127();
        test.correctionDownTo128();
        test.check.finish();
    }

    private void begin(int bits, int near, int reset, int first) {
        pair = new Pair(check, 600, bits, near);
        max = pair.line.setting(0);
        this.near = near;
        pair.line.thresholds(max, max, max);
        pair.line.reset(reset);
        pair.tell(first);
        old = first;
        correction = 0;
    }

    /** A sample with the error e, told as folded, that leaves A, B, C and N. */
    private void error(int e, int folded, int... learnt) {
        int sample = old - correction - e * (2 * near + 1);
        pair.tellAs(sample, folded, sample);
        pair.learnt(CONTEXT, learnt);
        old = sample;
        correction = learnt[2];
    }

    private void exponentAndFolding() {
        check.sentence("K is the least number for which N 2^K is not below A. FOLDED: if K is 0, and 2 B is at most -N");
        begin(7, 0, 64, 60);
        error(-1, 1, 3, -1, 0, 2);
        // 2 B is -N, but A is N + 1, and K 1.
        error(0, 0, 3, -1, 0, 3);
        // A is N, and K 0, but 2 B is more than -N.
        error(-1, 1, 4, -2, 0, 4);
        // A is N, and 2 B is -N.
        error(0, 1, 4, -2, 0, 5);
        error(-1, 1, 5, -3, 0, 6);
        error(-1, 0, 6, -4, 0, 7);
        error(2, 5, 8, -2, 0, 8);
        error(3, 6, 11, -8, 1, 9);
        error(0, 0, 11, -8, 1, 10);
        error(0, 0, 11, -8, 1, 11);
        error(0, 1, 11, -8, 1, 12);
        error(-4, 6, 15, -12, 1, 13);
    }

    private void foldingByNear() {
        check.sentence("FOLDED: if NEAR and K are 0, and 2 B is at most -N");
        begin(7, 1, 64, 60);
        error(0, 0, 2, 0, 0, 2);
        error(0, 0, 2, 0, 0, 3);
        error(-1, 1, 3, -3, 0, 4);
        // K is 0 and 2 B is below -N, but NEAR is 1.
        error(0, 0, 3, -3, 0, 5);
        error(-1, 1, 4, 0, -1, 6);
    }

    private void leaningAtItsLimits() {
        check.sentence("if B is at most -N: B is more by N, C is 1 less; and B is 1 - N, if it is at most -N still");
        begin(7, 0, 64, 60);
        error(-1, 1, 3, -1, 0, 2);
        // B is -2, N 3: nothing to correct.
        error(-1, 1, 4, -2, 0, 3);
        // B is -4, N 4: 0.
        error(-2, 3, 6, 0, -1, 4);
        // B is -9, N 5: -4, which is not at most -5.
        error(-9, 17, 15, -4, -2, 5);
        // B is -12, N 6: -6, which is at most -6 still.
        error(-8, 15, 23, -5, -3, 6);
        // B is -15, N 7: -8.
        error(-10, 19, 33, -6, -4, 7);
        check.sentence("If B is above 0 instead: B is less by N, C is 1 more; and B is 0, if it is above 0 still");
        // B is 0, N 8.
        error(6, 12, 39, 0, -4, 8);
        // B is 1, N 9: -8.
        error(1, 2, 40, -8, -3, 9);
        // B is 10, N 10: 0.
        error(18, 36, 58, 0, -2, 10);
        // B is 12, N 11: 1.
        error(12, 24, 70, 0, -1, 11);
        // B is 11, N 12: -1.
        error(11, 22, 81, -1, 0, 12);
    }

    private void halvedBelowZero() {
        check.sentence("If N is RESET: A and N are halved, and B (for B below 0: the opposite of (1 - B) / 2). N is 1 more");
        begin(7, 0, 3, 60);
        error(0, 0, 2, 0, 0, 2);
        error(0, 0, 2, 0, 0, 3);
        // A 3 is 1, B -1 is -1, N 3 is 1 and 2 then.
        error(-1, 1, 1, -1, 0, 2);
        error(0, 1, 1, -1, 0, 3);
        // A 2 is 1, B -2 is -1.
        error(-1, 1, 1, -1, 0, 2);
        error(-1, 0, 2, -2, 0, 3);
        // A 3 is 1, B -3 is -2, which is -N, so that it is 0 and C -1.
        error(-1, 0, 1, 0, -1, 2);
        // B is 2, N 3: -1, C 0.
        error(2, 4, 3, -1, 0, 3);
        // A 9 is 4, B 5 is 2, which is above 0.
        error(6, 12, 4, 0, 1, 2);
    }

    private void halvedAboveZero() {
        check.sentence("If N is RESET: B is halved, too. All divisions are downward");
        begin(7, 0, 5, 60);
        for (int n = 2; n < 6; n++) {
            error(0, 0, 2, 0, 0, n);
        }
        // A 5 is 2, B 3 is 1, N 5 is 2 and 3 then: B is -2.
        error(3, 6, 2, -2, 1, 3);
        error(0, 1, 2, -2, 1, 4);
        error(0, 1, 2, -2, 1, 5);
        // 2 B is -4, and N 5. B is -6 and -3 then, which is -N.
        error(-4, 7, 3, 0, 0, 3);
        error(0, 0, 3, 0, 0, 4);
        error(0, 0, 3, 0, 0, 5);
        // B is -1, and the opposite of 2 / 2.
        error(-1, 1, 2, -1, 0, 3);
    }

    private void errorsOfZero(int times) {
        for (int i = 0; i < times; i++) {
            pair.tell(old);
        }
    }

    private void halvedAtTheGreatestReset() {
        check.sentence("If N is RESET");
        Line line = new Line(600, 7, 0);
        line.thresholds(127, 127, 127);
        line.reset(255);
        line.sample(0, 60);
        for (int x = 1; x < 255; x++) {
            line.sample(x, 60);
        }
        check.state(line, 0, CONTEXT, 2, 0, 0, 255);
        line.sample(255, 60);
        check.state(line, 0, CONTEXT, 1, 0, 0, 128);
    }

    private void halvedAtTheFirstReset() {
        check.sentence("RESET is at first 64. If N is RESET: A and N are halved. N is 1 more");
        begin(7, 0, 64, 60);
        errorsOfZero(62);
        pair.learnt(CONTEXT, 2, 0, 0, 63);
        errorsOfZero(1);
        pair.learnt(CONTEXT, 2, 0, 0, 64);
        errorsOfZero(1);
        pair.learnt(CONTEXT, 1, 0, 0, 33);
        errorsOfZero(31);
        pair.learnt(CONTEXT, 1, 0, 0, 64);
        errorsOfZero(1);
        pair.learnt(CONTEXT, 0, 0, 0, 33);
    }

    private void leaningInSteps() {
        check.sentence("B is more by e STEP, A by e without its sign");
        begin(8, 3, 64, 126);
        // STEP is 7: B is 7, N 2.
        error(1, 2, 3, 0, 1, 2);
        error(-2, 3, 5, -2, 0, 3);
        error(0, 0, 5, -2, 0, 4);
        // B is -9, N 5: -4.
        error(-1, 1, 6, -4, -1, 5);
    }

    /** a = 20, b = 80, c = 50, d = 110: gradients 30, 30, 30, and 50 is predicted. */
    private void lastContextOfGradients() {
        check.sentence("contexts (to 364) B = C = 0, (365, 366) M = 0");
        int[][] due = {{60, 20, 14, 0, 1}, {40, 19, 14, -1, -1}, {49, 1, 5, -1, 0}, {51, 2, 5, -1, 1}};
        for (int[] row : due) {
            Pair three = new Pair(check, 3, 8, 0);
            three.tell(50, 80, 110, 20);
            three.tellAs(row[0], row[1], row[0]);
            check.seen("of it", three.line, 364, 50);
            three.learnt(364, row[2], row[3], row[4], 2);
        }
    }

    /** Errors of 300 move B beyond N each time, so that C is 1 more each time. */
    private void correctionUpTo127() {
        check.sentence("C is 1 more (to 127)");
        begin(16, 0, 64, 60003);
        steps(300, 126);
        check.same("C of the coder", pair.line.state(0, CONTEXT, 2), 126);
        steps(300, 1);
        check.same("C of the coder", pair.line.state(0, CONTEXT, 2), 127);
        steps(300, 1);
        check.same("C of the coder", pair.line.state(0, CONTEXT, 2), 127);
        check.same("C of the decoder", pair.line.state(1, CONTEXT, 2), 127);
        int n = pair.line.state(0, CONTEXT, 3);
        steps(1, 1);
        check.same("C of the coder", pair.line.state(0, CONTEXT, 2), 127);
        check.same("B is less by N at 127, too", pair.line.state(0, CONTEXT, 1), 1 - (n + 1));
        check.same("B of the decoder", pair.line.state(1, CONTEXT, 1), 1 - (n + 1));
    }

    private void correctionDownTo128() {
        check.sentence("C is 1 less (to -128)");
        begin(16, 0, 64, 3);
        steps(-300, 127);
        check.same("C of the coder", pair.line.state(0, CONTEXT, 2), -127);
        steps(-300, 1);
        check.same("C of the coder", pair.line.state(0, CONTEXT, 2), -128);
        steps(-300, 1);
        check.same("C of the coder", pair.line.state(0, CONTEXT, 2), -128);
        check.same("C of the decoder", pair.line.state(1, CONTEXT, 2), -128);
        int n = pair.line.state(0, CONTEXT, 3);
        check.same("B", pair.line.state(0, CONTEXT, 1), 1 - n);
        // B is -N then, which is more by N at -128, too.
        steps(-2, 1);
        check.same("C of the coder", pair.line.state(0, CONTEXT, 2), -128);
        check.same("B is more by N at -128, too", pair.line.state(0, CONTEXT, 1), 0);
        check.same("B of the decoder", pair.line.state(1, CONTEXT, 1), 0);
    }

    /** Samples with the error e, where C is as it has been learnt so far: 1 more, or less, each time, to its end. */
    private void steps(int e, int times) {
        for (int i = 0; i < times; i++) {
            int sample = old - correction - e;
            pair.tell(sample);
            check.same("predicted()", pair.line.predicted(), old - correction);
            old = sample;
            correction = Math.max(-128, Math.min(127, correction + Integer.signum(e)));
        }
    }
}
