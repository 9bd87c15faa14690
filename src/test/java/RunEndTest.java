/** Of 'Terms' the sample that ends a run: its context, SIGN, TURN, FOLDED and LEARNING; both sides are to learn alike. */
public final class RunEndTest {
    private static final int LIKE = 366;
    private static final int UNLIKE = 365;
    private static final int RUN = LinePredict.RUN;

    private final Check check = new Check();
    private Pair pair;

    public static void main(String[] args) {
        RunEndTest test = new RunEndTest();
        test.contextByNear();
        test.contextWithoutNear();
        test.signByTheTwo();
        test.signByNoOther();
        test.turnOfLike();
        test.turnOfUnlike();
        test.halvedOfLike();
        test.halvedOfUnlike();
        test.halvedAtTheFirstReset();
        test.rangeOfLike();
        test.rangeOfUnlike();
        test.check.finish();
    }

    /**
     * Rows that a search with Model found, of 3 bits with NEAR 1, two samples each; due is the last one's context,
     * predicted, a and b, on both sides.
     */
    private void lastOf(int[] samples, int... due) {
        Pair two = new Pair(check, 2, 3, 1);
        for (int i = 0; i + 1 < samples.length; i++) {
            two.tell(samples[i]);
        }
        two.tellSeen(samples[samples.length - 1], due);
    }

    private void contextByNear() {
        check.sentence("the context is 366, if a and b are not farther apart than NEAR (then a is predicted); else 365 (b)");
        lastOf(new int[] {7, 7, 0, 3, 7, 6, 4, 2}, LIKE, 5, 5, 6);
        lastOf(new int[] {2, 4, 6, 7, 6, 3}, LIKE, 7, 7, 6);
        lastOf(new int[] {6, 1, 0, 0, 6, 7, 6, 3}, UNLIKE, 7, 5, 7);
        lastOf(new int[] {3, 5, 5, 6, 4, 1, 5, 2}, UNLIKE, 2, 4, 2);
    }

    /** Rows of three whose first two are a run of like samples and whose third ends it; the third one above is b. */
    private void beginRows(int bits, int near, int reset, int like, int third) {
        pair = new Pair(check, 3, bits, near);
        pair.line.reset(reset);
        pair.tell(like, like, third);
        if (like > 0) {
            // Below a first row of others than 0 the first samples are not flat yet.
            pair.tell(like, like, third);
        }
    }

    private void thirdOf(int like, int sample, int folded, int... learnt) {
        pair.tell(like, like);
        pair.tellAs(sample, folded, sample);
        pair.learnt(UNLIKE, learnt);
    }

    private void contextWithoutNear() {
        check.sentence("the context is 366, if a and b are not farther apart than NEAR (then a is predicted); else 365 (b)");
        beginRows(7, 0, 64, 50, 50);
        pair.tell(50, 50);
        pair.tellSeen(51, LIKE, 50, 50, 50);
        pair.tell(50, 50);
        pair.tellSeen(60, UNLIKE, 51, 50, 51);
        beginRows(7, 0, 64, 50, 49);
        pair.tell(50, 50);
        pair.tellSeen(60, UNLIKE, 49, 50, 49);
    }

    private void signByTheTwo() {
        check.sentence("365 (b is predicted, SIGN is -1 if a is above b)");
        beginRows(7, 0, 64, 20, 30);
        thirdOf(20, 31, 2, 3, 0, 0, 2);
        beginRows(7, 0, 64, 20, 30);
        thirdOf(20, 29, 1, 3, 1, 0, 2);
        beginRows(7, 0, 64, 40, 30);
        thirdOf(40, 29, 2, 3, 0, 0, 2);
        beginRows(7, 0, 64, 40, 30);
        thirdOf(40, 31, 1, 3, 1, 0, 2);
        check.sentence("366 (then a is predicted)");
        pair = new Pair(check, 64, 7, 0);
        pair.tellAs(1, 1, 1);
        pair = new Pair(check, 1, 7, 0);
        pair.tell(9, 9);
        // SIGN is 1 below a, too: e is -1.
        pair.tellAs(8, 0, 8);
        pair.learnt(LIKE, 10, 1, 0, 3);
    }

    /** A row told twice, then a run of 9 to the place of b; c and d lie on the other side of it than a does, or of a. */
    private void endBelow(int[] row, int place, int sample, int folded) {
        pair = new Pair(check, row.length, 8, 0);
        pair.tell(row);
        pair.tell(row);
        for (int x = 0; x < place; x++) {
            pair.tell(9);
        }
        pair.tellAs(sample, folded, sample);
        check.seen("of " + sample, pair.line, UNLIKE, row[place], 9, row[place], row[place - 1]);
    }

    private void signByNoOther() {
        check.sentence("365 (b is predicted, SIGN is -1 if a is above b)");
        // b is 20, c 50; b is 50, d 0; then b is 7, c 5; b is 5, d 20: one more than b.
        endBelow(new int[] {9, 9, 9, 9, 50, 20}, 5, 21, 2);
        endBelow(new int[] {9, 9, 9, 9, 50, 0}, 4, 51, 2);
        endBelow(new int[] {9, 9, 9, 9, 5, 7}, 5, 8, 1);
        endBelow(new int[] {9, 9, 9, 9, 5, 20}, 4, 6, 1);
    }

    /** In a first row 0 is flat: a sample ends the run at once, and 0 behind it makes all flat again. */
    private void like(int e, int folded, int... learnt) {
        int sample = e < 0 ? 128 + e : e;
        pair.tellAs(sample, folded, sample);
        check.same("context()", pair.line.context(), LIKE);
        pair.learnt(LIKE, learnt);
        pair.tell(0);
    }

    private void turnOfLike() {
        check.sentence("K as before, but (366) with N / 2 added to A. TURN is 1, if ..; (366) less 1. A by FOLDED / 2");
        pair = new Pair(check, 64, 7, 0);
        // A + N / 2 is 2, N 1: K is 1; e above 0 does not turn.
        like(1, 1, 2, 0, 0, 2);
        // 3, N 2: K is 1; e below 0 turns.
        like(-1, 0, 2, 1, 0, 3);
        // 3, N 3: K is 0, and 2 M is below N: e above 0 turns.
        like(1, 0, 2, 1, 0, 4);
        // 4, N 4: K is 0, and 2 M is below N: e below 0 does not.
        like(-1, 1, 2, 2, 0, 5);
        like(-1, 1, 2, 3, 0, 6);
        // K is 0, and 2 M is N: e above 0 does not turn.
        like(1, 1, 2, 3, 0, 7);
        like(-2, 3, 3, 4, 0, 8);
        // K is 0, and 2 M is N: e below 0 turns.
        like(-2, 2, 4, 5, 0, 9);
        // K is 0, and 2 M is above N.
        like(3, 5, 6, 5, 0, 10);
        like(1, 1, 6, 5, 0, 11);
        // 11, N 11: K is 0, and 2 M is below N again.
        like(1, 0, 6, 5, 0, 12);
    }

    private void turnOfUnlike() {
        check.sentence("TURN is 1, if ..; FOLDED: twice e without its sign, less TURN. A is more by (FOLDED + 1) / 2");
        beginRows(7, 0, 64, 0, 50);
        // e is 0, and so is what is told.
        thirdOf(0, 50, 0, 2, 0, 0, 2);
        // A is N: K is 0, and 2 M is below N: e above 0 turns.
        thirdOf(0, 51, 1, 3, 0, 0, 3);
        thirdOf(0, 50, 2, 4, 1, 0, 4);
        thirdOf(0, 48, 4, 6, 2, 0, 5);
        // A is N + 1: K is 1, e above 0 does not turn.
        thirdOf(0, 49, 2, 7, 2, 0, 6);
        // A is N + 1: K is 1, e below 0 turns.
        thirdOf(0, 48, 1, 8, 3, 0, 7);
        thirdOf(0, 48, 0, 8, 3, 0, 8);
        thirdOf(0, 47, 2, 9, 4, 0, 9);
        thirdOf(0, 46, 2, 10, 5, 0, 10);
        // K is 0, and 2 M is N: e above 0 does not turn.
        thirdOf(0, 47, 2, 11, 5, 0, 11);
        thirdOf(0, 48, 1, 12, 5, 0, 12);
        thirdOf(0, 47, 2, 13, 6, 0, 13);
        thirdOf(0, 46, 2, 14, 7, 0, 14);
        // K is 0, and 2 M is N: e below 0 turns.
        thirdOf(0, 45, 1, 15, 8, 0, 15);
        // 3 e: 6 less TURN, as 2 M is above N: 5; A is more by 3.
        thirdOf(0, 42, 5, 18, 9, 0, 16);
    }

    private void halvedOfLike() {
        check.sentence("If N is RESET: A, N and M are halved. N is 1 more");
        pair = new Pair(check, 64, 7, 0);
        pair.line.reset(3);
        like(1, 1, 2, 0, 0, 2);
        like(-1, 0, 2, 1, 0, 3);
        // A 2 is 1, M 1 is 0, N 3 is 1 and 2 then.
        like(1, 0, 1, 0, 0, 2);
        like(-1, 1, 1, 1, 0, 3);
        // A 5 is 2, M 2 is 1.
        like(-5, 9, 2, 1, 0, 2);
    }

    private void halvedOfUnlike() {
        check.sentence("If N is RESET: A, N and M are halved. N is 1 more");
        beginRows(7, 0, 4, 0, 50);
        thirdOf(0, 49, 1, 3, 1, 0, 2);
        // A is above N: K is 1.
        thirdOf(0, 48, 1, 4, 2, 0, 3);
        thirdOf(0, 47, 1, 5, 3, 0, 4);
        // M is 3 still as e is above 0, and 1 then; A 7 is 3, N 4 is 2 and 3 then.
        thirdOf(0, 49, 4, 3, 1, 0, 3);
        thirdOf(0, 49, 0, 3, 1, 0, 4);
        // e of 0 is halved at, too.
        thirdOf(0, 49, 0, 1, 0, 0, 3);
    }

    private void halvedAtTheFirstReset() {
        check.sentence("RESET is at first 64. If N is RESET: A, N and M are halved. N is 1 more");
        Line line = new Line(3, 7, 0);
        int[] first = {0, 0, 50};
        for (int y = 0; y < 64; y++) {
            for (int x = 0; x < 3; x++) {
                line.sample(x, first[x]);
            }
            line.endRow();
        }
        check.state(line, 0, UNLIKE, 2, 0, 0, 64);
        for (int x = 0; x < 3; x++) {
            line.sample(x, first[x]);
        }
        check.state(line, 0, UNLIKE, 1, 0, 0, 33);
        check.state(line, 0, LIKE, 51, 0, 0, 2);
    }

    private void rangeOfLike() {
        check.sentence("Error, quantised, rebuilt and RANGE as before");
        int[][] due = {{1, 1}, {63, 125}, {64, 126}, {65, 124}, {126, 2}, {127, 0}};
        for (int[] row : due) {
            pair = new Pair(check, 2, 7, 0);
            pair.tellAs(row[0], row[1], row[0]);
        }
    }

    private void rangeOfUnlike() {
        check.sentence("Error, quantised, rebuilt and RANGE as before");
        // b is 100 and a 0; -63, -64, and -65, which is 63.
        int[][] due = {{37, 125, 65, 1}, {36, 127, 66, 1}, {35, 126, 65, 0}, {127, 54, 29, 0}};
        for (int[] row : due) {
            beginRows(7, 0, 64, 0, 100);
            thirdOf(0, row[0], row[1], row[2], row[3], 0, 2);
        }
        beginRows(8, 3, 64, 0, 126);
        // In STEPs of 7: -3 is 0, -4 is -1.
        pair.tell(0, 0);
        pair.tellAs(123, 0, 126);
        pair.tell(0, 0);
        pair.tellAs(122, 2, 119);
        // At NEAR of a the run goes on, however far b is.
        pair.tell(0, 0);
        pair.tellAs(3, RUN, 0);
    }
}
