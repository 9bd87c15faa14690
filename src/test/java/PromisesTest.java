import java.util.function.Supplier;

/** Each promise of the document by its number, with answers worked out by hand: ordinary, at the edges, and wrong. */
public final class PromisesTest {
    private static final int RUN = LinePredict.RUN;
    private static final Class<?> STATE = IllegalStateException.class;
    private static final Class<?> ARGUMENT = IllegalArgumentException.class;
    private static final Class<?> INDEX = IndexOutOfBoundsException.class;

    private final Check check = new Check();
    private String promise = "";

    public static void main(String[] args) {
        PromisesTest test = new PromisesTest();
        test.newObject();
        test.numbersBroughtNear();
        test.firstThresholds();
        test.thresholds();
        test.reset();
        test.sampleWrong();
        test.sampleByGradients();
        test.sampleInRuns();
        test.sampleFarFromExpected();
        test.sampleLossy();
        test.foldedTheOtherWay();
        test.learningAtReset();
        test.endLearningAtReset();
        test.correctionEnds();
        test.leaningEnds();
        test.back();
        test.backWrong();
        test.backTurnsOver();
        test.endRow();
        test.neighbours();
        test.contextAndPredicted();
        test.stateWrong();
        test.runs();
        test.quantised();
        test.setting();
        test.throwingChangesNothing();
        test.check.finish();
    }

    private void due(String what, Object got, Object due) {
        check.same(promise + ": " + what, got, due);
    }

    private void fails(String what, Supplier<Object> call, Class<?> due) {
        check.fails(promise + ": " + what, call, due);
    }

    private void settings(LinePredict line, int... due) {
        for (int k = 0; k < due.length; k++) {
            due("setting(" + k + ")", line.setting(k), due[k]);
        }
    }

    private void state(LinePredict line, int side, int q, int... due) {
        for (int what = 0; what < 4; what++) {
            due("state(" + side + ", " + q + ", " + what + ")", line.state(side, q, what), due[what]);
        }
    }

    /** Rows told whole, each with the answers that are due. */
    private void samples(LinePredict line, int[][] rows, int[][] due) {
        for (int y = 0; y < rows.length; y++) {
            for (int x = 0; x < rows[y].length; x++) {
                due("sample(" + x + ", " + rows[y][x] + ") of row " + y, line.sample(x, rows[y][x]), due[y][x]);
            }
            due("endRow() of row " + y, line.endRow(), true);
        }
    }

    private void newObject() {
        promise = "1, a new object";
        LinePredict line = new LinePredict(9, 8, 0);
        settings(line, 255, 256, 0, 3, 7, 21, 64, 0, 0, 0, 0);
        due("runs()", line.runs(), 0);
        due("context()", line.context(), 0);
        due("predicted()", line.predicted(), 0);
        for (int k = 0; k < 5; k++) {
            due("neighbour(" + k + ")", line.neighbour(k), 0);
        }
        for (int side = 0; side < 2; side++) {
            for (int q : new int[] {1, 2, 364, 365, 366}) {
                state(line, side, q, 4, 0, 0, 1);
            }
        }
        state(new LinePredict(9, 16, 0), 0, 7, 1024, 0, 0, 1);
        state(new LinePredict(9, 6, 0), 1, 366, 2, 0, 0, 1);
        state(new LinePredict(9, 8, 1), 1, 365, 2, 0, 0, 1);
    }

    private void numbersBroughtNear() {
        promise = "1, numbers brought to the nearest";
        settings(new LinePredict(3, 1, -1), 3, 4, 0);
        settings(new LinePredict(3, Integer.MIN_VALUE, Integer.MIN_VALUE), 3, 4, 0);
        settings(new LinePredict(3, 2, 2), 3, 2, 1);
        settings(new LinePredict(3, 3, 99), 7, 2, 3);
        settings(new LinePredict(3, 8, 128), 255, 2, 127);
        settings(new LinePredict(3, 9, 256), 511, 2, 255);
        settings(new LinePredict(3, 16, 255), 65535, 130, 255);
        settings(new LinePredict(3, 17, 256), 65535, 130, 255);
        settings(new LinePredict(3, Integer.MAX_VALUE, Integer.MAX_VALUE), 65535, 130, 255);
        for (int width : new int[] {1, 0, -1, Integer.MIN_VALUE}) {
            LinePredict line = new LinePredict(width, 8, 0);
            line.sample(0, 0);
            fails("a second sample of width " + width, () -> line.sample(1, 0), STATE);
            due("endRow() of width " + width, line.endRow(), true);
        }
        for (int width : new int[] {513, 65536, 65537, Integer.MAX_VALUE}) {
            LinePredict line = new LinePredict(width, 8, 0);
            for (int x = 0; x < 511; x++) {
                line.sample(x, x % 256);
            }
            due("endRow() of width " + width, line.endRow(), false);
        }
    }

    private void firstThresholds() {
        promise = "1, thresholds at first";
        settings(new LinePredict(3, 8, 3), 255, 38, 3, 12, 22, 42, 64);
        settings(new LinePredict(3, 9, 0), 511, 512, 0, 4, 11, 38, 64);
        settings(new LinePredict(3, 12, 0), 4095, 4096, 0, 18, 67, 276, 64);
        settings(new LinePredict(3, 13, 0), 8191, 8192, 0, 18, 67, 276, 64);
        settings(new LinePredict(3, 16, 255), 65535, 130, 255, 783, 1342, 2061, 64);
        settings(new LinePredict(3, 8, 127), 255, 2, 127, 128, 128, 128, 64);
        settings(new LinePredict(3, 8, 40), 255, 5, 40, 123, 207, 207, 64);
        settings(new LinePredict(3, 7, 0), 127, 128, 0, 2, 3, 10, 64);
        settings(new LinePredict(3, 7, 10), 127, 8, 10, 31, 53, 80, 64);
        settings(new LinePredict(3, 4, 0), 15, 16, 0, 2, 3, 4, 64);
        settings(new LinePredict(3, 2, 0), 3, 4, 0, 2, 3, 3, 64);
        settings(new LinePredict(3, 2, 1), 3, 2, 1, 3, 3, 3, 64);
        settings(new LinePredict(3, 3, 3), 7, 2, 3, 4, 4, 4, 64);
    }

    private void thresholds() {
        promise = "2, thresholds";
        LinePredict line = new LinePredict(4, 8, 2);
        due("least", line.thresholds(3, 3, 3), true);
        settings(line, 255, 52, 2, 3, 3, 3);
        due("greatest", line.thresholds(255, 255, 255), true);
        settings(line, 255, 52, 2, 255, 255, 255);
        int[][] none = {
            {2, 3, 3}, {3, 2, 3}, {3, 3, 2}, {256, 256, 256}, {3, 3, 256}, {5, 4, 6}, {5, 6, 5}, {6, 5, 5}, {0, 0, 0},
            {Integer.MIN_VALUE, 9, 9}, {3, 9, Integer.MAX_VALUE}, {-3, -3, -3}};
        for (int[] t : none) {
            due("thresholds(" + t[0] + ", " + t[1] + ", " + t[2] + ")", line.thresholds(t[0], t[1], t[2]), false);
        }
        settings(line, 255, 52, 2, 255, 255, 255);
        due("others", line.thresholds(10, 20, 30), true);
        line.sample(0, 0);
        fails("after a sample", () -> line.thresholds(10, 20, 30), STATE);
        fails("wrong ones after a sample", () -> line.thresholds(0, 0, 0), STATE);
        settings(line, 255, 52, 2, 10, 20, 30);
        LinePredict decoding = new LinePredict(4, 8, 2);
        decoding.back(0, RUN);
        fails("after the decoder's sample", () -> decoding.thresholds(10, 20, 30), STATE);
        thresholdsCount();
    }

    /** Below 0 9 9 9 the first gradient is 9 and the others are flat: 81 times its number is the context. */
    private void thresholdsCount() {
        int[][] cases = {{10, 20, 30, 81}, {9, 20, 30, 162}, {8, 9, 30, 243}, {7, 8, 9, 324}, {9, 10, 10, 162}};
        for (int[] t : cases) {
            LinePredict line = new LinePredict(4, 8, 0);
            line.thresholds(t[0], t[1], t[2]);
            int[] above = {0, 9, 9, 9};
            for (int x = 0; x < 4; x++) {
                line.sample(x, above[x]);
            }
            line.endRow();
            line.sample(0, 0);
            due("context by thresholds " + t[0] + ", " + t[1] + ", " + t[2], line.context(), t[3]);
        }
    }

    private void reset() {
        promise = "3, reset";
        LinePredict line = new LinePredict(4, 8, 0);
        for (int at : new int[] {2, 256, 0, -3, Integer.MIN_VALUE, Integer.MAX_VALUE}) {
            due("reset(" + at + ")", line.reset(at), false);
            due("setting(6)", line.setting(6), 64);
        }
        for (int at : new int[] {3, 255, 64, 100}) {
            due("reset(" + at + ")", line.reset(at), true);
            due("setting(6)", line.setting(6), at);
        }
        line.sample(0, 9);
        fails("after a sample", () -> line.reset(5), STATE);
        fails("a wrong one after a sample", () -> line.reset(2), STATE);
        due("setting(6)", line.setting(6), 100);
        LinePredict decoding = new LinePredict(4, 8, 2);
        decoding.back(0, 4);
        fails("after the decoder's sample", () -> decoding.reset(5), STATE);
    }

    private void sampleWrong() {
        promise = "4, sample, wrong";
        LinePredict line = new LinePredict(2, 4, 0);
        for (int x : new int[] {1, -1, 2, Integer.MIN_VALUE, Integer.MAX_VALUE}) {
            fails("place " + x, () -> line.sample(x, 3), STATE);
            fails("place " + x + " and a wrong sample", () -> line.sample(x, 16), STATE);
        }
        for (int v : new int[] {-1, 16, Integer.MIN_VALUE, Integer.MAX_VALUE}) {
            fails("sample " + v, () -> line.sample(0, v), ARGUMENT);
        }
        due("sample(0, 15)", line.sample(0, 15), 0);
        line.sample(1, 0);
        for (int x : new int[] {0, 1, 2}) {
            fails("place " + x + " of a whole row", () -> line.sample(x, 3), STATE);
            fails("place " + x + " of a whole row and a wrong sample", () -> line.sample(x, -3), STATE);
        }
    }

    private void sampleByGradients() {
        promise = "4, sample by gradients";
        LinePredict line = new LinePredict(4, 8, 0);
        due("first of a run", line.sample(0, 0), RUN);
        due("second of a run", line.sample(1, 0), RUN);
        // a = b = 0: context 366, K is 2; e is 90: 180 less 1.
        due("the run's end", line.sample(2, 90), 179);
        due("context of the run's end", line.context(), 366);
        // a = 90, the rest 0: context 4 with SIGN -1; 90 predicted, e is 16.
        due("behind it", line.sample(3, 74), 32);
        due("context behind it", line.context(), 4);
        state(line, 0, 366, 93, 0, 0, 2);
        // B is 16 at first, then less by N of 2, and 0, as it is above that still.
        state(line, 0, 4, 20, 0, 1, 2);
    }

    private void sampleInRuns() {
        promise = "4, sample in runs";
        LinePredict line = new LinePredict(6, 4, 1);
        // A distance of NEAR goes on, one more ends; what is rebuilt in the run is a.
        due("sample(0, 1)", line.sample(0, 1), RUN);
        due("rebuilt", line.neighbour(4), 0);
        due("sample(1, 1)", line.sample(1, 1), RUN);
        due("a", line.neighbour(0), 0);
        // e is (2 + 1) / 3 = 1; A is 2 and N 1, so K is 1: no TURN; 2 less 1.
        due("sample(2, 2)", line.sample(2, 2), 1);
        due("context()", line.context(), 366);
        due("rebuilt at the end", line.neighbour(4), 3);
        state(line, 0, 366, 2, 0, 0, 2);
        line.sample(3, 3);
        due("no run by a far gradient", line.context() != 0, true);
        runLastsToTheRowsEnd();
        runEndsUnlike();
    }

    private void runLastsToTheRowsEnd() {
        LinePredict line = new LinePredict(3, 8, 0);
        samples(line, new int[][] {{0, 0, 9}, {0, 0, 9}}, new int[][] {{RUN, RUN, 17}, {RUN, RUN, 0}});
        LinePredict other = new LinePredict(2, 8, 0);
        samples(other, new int[][] {{0, 0}, {0, 0}, {0, 0}}, new int[][] {{RUN, RUN}, {RUN, RUN}, {RUN, RUN}});
        due("runs of the other", other.runs(), 3);
    }

    private void runEndsUnlike() {
        LinePredict line = new LinePredict(5, 8, 0);
        int[] first = {7, 7, 7, 20, 20};
        for (int x = 0; x < 5; x++) {
            line.sample(x, first[x]);
        }
        line.endRow();
        // The first has c = 0; then the row above is flat to the 7 before 20.
        line.sample(0, 7);
        due("the run begins", line.sample(1, 7), RUN);
        due("and goes on over any gradient", line.sample(2, 7), RUN);
        // b is 20, a is 7: context 365, SIGN 1, b predicted; e is -1; K is 2, so it turns: 2 less 1.
        due("its end", line.sample(3, 19), 1);
        due("context()", line.context(), 365);
        due("predicted()", line.predicted(), 20);
        state(line, 0, 365, 5, 1, 0, 2);
        LinePredict falling = new LinePredict(5, 8, 0);
        int[] above = {20, 20, 20, 7, 7};
        for (int x = 0; x < 5; x++) {
            falling.sample(x, above[x]);
        }
        falling.endRow();
        falling.sample(0, 20);
        falling.sample(1, 20);
        falling.sample(2, 20);
        // a is above b: SIGN is -1, so that 6 of 7 predicted is an e of 1.
        due("its end below", falling.sample(3, 6), 2);
        due("context() below", falling.context(), 365);
        due("predicted() below", falling.predicted(), 7);
        state(falling, 0, 365, 5, 0, 0, 2);
    }

    private void sampleFarFromExpected() {
        promise = "4, sample far from what is expected";
        LinePredict line = new LinePredict(3, 8, 0);
        // e is 128, brought to -128: as it is below 0 and K is 2, it turns: 256 less 1 and 1.
        due("sample(0, 128)", line.sample(0, 128), 254);
        due("rebuilt", line.neighbour(4), 128);
        LinePredict less = new LinePredict(3, 8, 0);
        due("sample(0, 127)", less.sample(0, 127), 253);
        LinePredict all = new LinePredict(3, 8, 0);
        due("sample(0, 255)", all.sample(0, 255), 0);
        state(all, 0, 366, 4, 1, 0, 2);
        // 255 predicted with SIGN -1: e is 255, brought to -1.
        due("sample(1, 0)", all.sample(1, 0), 1);
        due("rebuilt", all.neighbour(4), 0);
        // B is -1, N is 2 then: more than -N, and not above 0.
        state(all, 0, 4, 5, -1, 0, 2);
        // RANGE is 5 here: 2 stays 2, 3 is brought to -2.
        LinePredict five = new LinePredict(3, 6, 8);
        settings(five, 63, 5, 8);
        due("2 of a RANGE of 5", five.sample(0, 34), 3);
        LinePredict fiveToo = new LinePredict(3, 6, 8);
        due("3 of a RANGE of 5", fiveToo.sample(0, 43), 2);
        due("3 of a RANGE of 5 rebuilt", fiveToo.neighbour(4), 51);
    }

    private void sampleLossy() {
        promise = "4, sample with NEAR";
        LinePredict line = new LinePredict(4, 8, 3);
        // (250 + 3) / 7 = 36, rebuilt 252; RANGE is 38: e is -2, it turns (A is 2, K is 1): 4 less 1 and 1.
        due("sample(0, 250)", line.sample(0, 250), 2);
        due("rebuilt", line.neighbour(4), 252);
        // a = 252, SIGN -1, 252 predicted; 255 is an e of 0 still.
        due("sample(1, 255)", line.sample(1, 255), 0);
        due("rebuilt", line.neighbour(4), 252);
        // 252 predicted again; e of -3 and 3 are 0, of 4 is 1; with SIGN -1 a 248 is an e of 1.
        due("sample(2, 248)", line.sample(2, 248), 2);
        due("rebuilt", line.neighbour(4), 245);
        due("context()", line.context(), 4);
        // B was 0, then 7: less by N of 3, and brought to 0.
        state(line, 0, 4, 3, 0, 1, 3);
        LinePredict cut = new LinePredict(4, 8, 3);
        cut.sample(0, 255);
        // (255 + 3) / 7 = 36: rebuilt 252.
        due("rebuilt", cut.neighbour(4), 252);
        LinePredict top = new LinePredict(4, 2, 1);
        // (3 + 1) / 3 = 1: rebuilt 3.
        top.sample(0, 3);
        due("rebuilt at the top", top.neighbour(4), 3);
        LinePredict over = new LinePredict(4, 3, 2);
        // (7 + 2) / 5 = 1: 5; then 5 predicted with SIGN -1, 7 is an e of 0.
        over.sample(0, 7);
        due("rebuilt near the top", over.neighbour(4), 5);
        LinePredict beyond = new LinePredict(4, 4, 1);
        // (14 + 1) / 3 = 5: rebuilt 15 at most.
        beyond.sample(0, 14);
        due("rebuilt at most MAX", beyond.neighbour(4), 15);
    }

    /** One context, A small and B at -N or less by half: numbers fold the other way round. */
    private void foldedTheOtherWay() {
        promise = "4, folded the other way";
        LinePredict line = new LinePredict(12, 2, 0);
        // bits 2: A is 2 at first. 3 is told at once by 366, then all of the row is context 4 (3 is T3), SIGN -1.
        line.sample(0, 3);
        int[][] due = {{3, 0, 2, 0, 0, 2}, {3, 0, 2, 0, 0, 3}};
        for (int i = 0; i < due.length; i++) {
            due("sample(" + (i + 1) + ")", line.sample(i + 1, due[i][0]), due[i][1]);
            state(line, 0, 4, due[i][2], due[i][3], due[i][4], due[i][5]);
        }
        // Now A is 2, N 3: K is 0. e is -2 (2 folded as -2 e - 1 = 3): 3 to 1 is 2, brought to -2.
        due("2 is brought to -2", line.sample(3, 1), 3);
        // B is -2, N 4: 2 B is at most -N.
        state(line, 0, 4, 4, -2, 0, 4);
        // a = 1 is below T1, so that context 1 is next; a sample of 3 brings context 4 back.
        line.sample(4, 3);
        due("context of 1", line.context(), 1);
        due("0 folds to 1", line.sample(5, 3), 1);
        due("context()", line.context(), 4);
        state(line, 0, 4, 4, -2, 0, 5);
        // 2 B is -4, N is 5: not at most -N any more.
        due("0 folds to 0", line.sample(6, 3), 0);
        LinePredict lossy = new LinePredict(12, 2, 1);
        lossy.sample(0, 3);
        due("with NEAR 0 folds to 0", lossy.sample(1, 3), 0);
    }

    /** With RESET 3 the third sample of a context finds N = 3. */
    private void learningAtReset() {
        promise = "4, learning at RESET";
        LinePredict line = new LinePredict(16, 8, 0);
        line.reset(3);
        line.sample(0, 200);
        // SIGN is -1, a predicted: e = 0 each time.
        line.sample(1, 200);
        state(line, 0, 4, 4, 0, 0, 2);
        line.sample(2, 200);
        state(line, 0, 4, 4, 0, 0, 3);
        // e is -1 (201): B -1, A 5; halved: 2, N 1, B the opposite of 2 / 2 = -1; N 2.
        due("sample(3, 201)", line.sample(3, 201), 1);
        state(line, 0, 4, 2, -1, 0, 2);
        // K is 0 and 2 B is -N: folded the other way. e is 5: B 4, A 7, N 3; B is less by 3, then brought to 0, C is 1.
        due("sample(4, 196)", line.sample(4, 196), 11);
        state(line, 0, 4, 7, 0, 1, 3);
        // C times SIGN: 195 predicted; e is -6 (201): B -6, A 13; halved 6, N 1, B -(7 / 2) = -3; N 2: B -1, C 0.
        due("sample(5, 201)", line.sample(5, 201), 11);
        due("predicted()", line.predicted(), 195);
        state(line, 0, 4, 6, -1, 0, 2);
        // e is 3: B 2, A 9, N 3: B -1, C 1.
        line.sample(6, 198);
        state(line, 0, 4, 9, -1, 1, 3);
        // 197 predicted; e is 8 (189): B 7, A 17; halved 8, N 1, B 3; N 2: B 1, so 0; C 2.
        line.sample(7, 189);
        state(line, 0, 4, 8, 0, 2, 2);
    }

    private void endLearningAtReset() {
        promise = "4, learning at RESET of a run's end";
        LinePredict line = new LinePredict(1, 8, 0);
        line.reset(3);
        // One sample a row; each is told in a run's context if the two above are alike.
        line.sample(0, 255);
        state(line, 0, 366, 4, 1, 0, 2);
        line.endRow();
        line.sample(0, 255);
        due("a gradient above", line.context(), 32);
        line.endRow();
        due("alike now", line.sample(0, 255), RUN);
        line.endRow();
        // A is 4 and N / 2 of 2 is 1: 5, K is 2. e is -1, turned: 2 less 2.
        due("an end below", line.sample(0, 254), 0);
        state(line, 0, 366, 4, 2, 0, 3);
        line.endRow();
        line.sample(0, 254);
        line.endRow();
        due("alike again", line.sample(0, 254), RUN);
        line.endRow();
        // N is 3: A 4 + 1, K is 1. e is 1: 2 less 1; A is 4; halved: A 2, N 1, M 1; N 2.
        due("an end above", line.sample(0, 255), 1);
        state(line, 0, 366, 2, 1, 0, 2);
    }

    /** Steps of 300 in a column of one: the context is 32 each time, and C goes up to its end, or down. */
    private void correctionEnds() {
        promise = "4, C's ends";
        LinePredict up = new LinePredict(1, 16, 0);
        for (int y = 0; y < 200; y++) {
            up.sample(0, 300 * (y + 1));
            up.endRow();
        }
        due("context()", up.context(), 32);
        due("C upward", up.state(0, 32, 2), 127);
        due("predicted()", up.predicted(), 300 * 199 + 127);
        LinePredict down = new LinePredict(1, 16, 0);
        for (int y = 0; y < 200; y++) {
            down.sample(0, y % 2 == 0 ? 1000 : 0);
            down.endRow();
        }
        due("context()", down.context(), 32);
        due("C downward", down.state(0, 32, 2), -128);
        due("predicted() below", down.predicted(), 1000 - 128);
    }

    private void leaningEnds() {
        promise = "4, B's ends";
        LinePredict line = new LinePredict(9, 8, 0);
        line.sample(0, 100);
        // e is -50: B -50, N 2: -48, which is at most -2 still: 1 - 2.
        line.sample(1, 150);
        state(line, 0, 4, 54, -1, -1, 2);
        // C is -1 and SIGN -1: 151 predicted; e is 2 (149): B 1, N 3: -2, C 0.
        due("sample(2, 149)", line.sample(2, 149), 4);
        state(line, 0, 4, 56, -2, 0, 3);
        // e is -2 (151): B -4, N 4: 0, C -1.
        line.sample(3, 151);
        state(line, 0, 4, 58, 0, -1, 4);
        // 152 predicted, e is 0: B is 0, nothing to correct.
        line.sample(4, 152);
        state(line, 0, 4, 58, 0, -1, 5);
        // 153 predicted; e is -5 (158): B -5, N 6: above -N, so it stays.
        line.sample(5, 158);
        state(line, 0, 4, 63, -5, -1, 6);
        // 159 predicted; e is -2 (161): B -7, N 7: 0, C -2.
        line.sample(6, 161);
        state(line, 0, 4, 65, 0, -2, 7);
    }

    private void back() {
        promise = "5, back";
        LinePredict line = new LinePredict(4, 8, 0);
        int[] told = {RUN, RUN, 179, 32};
        int[] due = {0, 0, 90, 74};
        for (int x = 0; x < 4; x++) {
            due("back(" + x + ")", line.back(x, told[x]), due[x]);
            due("rebuilt", line.neighbour(4), due[x]);
        }
        state(line, 1, 366, 93, 0, 0, 2);
        state(line, 1, 4, 20, 0, 1, 2);
        state(line, 0, 4, 4, 0, 0, 1);
        settings(line, 255, 256, 0, 3, 7, 21, 64, 0, 0, 4, 0);
        LinePredict round = new LinePredict(4, 8, 0);
        due("-128", round.back(0, 254), 128);
        LinePredict most = new LinePredict(4, 8, 0);
        due("127", most.back(0, 253), 127);
        LinePredict near = new LinePredict(4, 8, 3);
        due("with NEAR", near.back(0, 2), 252);
    }

    private void backWrong() {
        promise = "5, back, wrong";
        LinePredict line = new LinePredict(2, 8, 0);
        for (int x : new int[] {1, -1, 2, Integer.MIN_VALUE, Integer.MAX_VALUE}) {
            fails("place " + x, () -> line.back(x, 3), STATE);
            fails("place " + x + " and a wrong number", () -> line.back(x, -3), STATE);
        }
        for (int error : new int[] {-1, 257, Integer.MIN_VALUE + 1, Integer.MAX_VALUE}) {
            fails("number " + error, () -> line.back(0, error), ARGUMENT);
        }
        // At a run's end of context 366: 255 is an e of 128, which is another in RANGE; 256 is one of -129.
        fails("back(0, 255)", () -> line.back(0, 255), ARGUMENT);
        fails("back(0, 256)", () -> line.back(0, 256), ARGUMENT);
        due("back(0, 9)", line.back(0, 9), 5);
        fails("RUN in no run", () -> line.back(1, RUN), ARGUMENT);
        fails("256 is an e of 128", () -> line.back(1, 256), ARGUMENT);
        // a = 5: context 2, SIGN -1; 255 is an e of -128.
        due("255 is an e of -128", line.back(1, 255), 133);
        for (int x : new int[] {0, 1, 2}) {
            fails("place " + x + " of a whole row", () -> line.back(x, 0), STATE);
            fails("place " + x + " of a whole row and RUN", () -> line.back(x, RUN), STATE);
        }
        backOfRange();
    }

    /** RANGE itself is a number only where K is 0, e is below 0 and does not turn, and context 365 takes nothing off. */
    private void backOfRange() {
        LinePredict line = new LinePredict(12, 2, 0);
        settings(line, 3, 4, 0, 2, 3, 3, 64);
        fails("RANGE at first", () -> line.back(0, 4), ARGUMENT);
        fails("above RANGE", () -> line.back(0, 5), ARGUMENT);
        int[] above = {0, 0, 0, 1, 0, 0, 0, 1, 0, 0, 0, 1};
        LinePredict coder = new LinePredict(12, 2, 0);
        for (int x = 0; x < 12; x++) {
            line.back(x, coder.sample(x, above[x]));
        }
        line.endRow();
        coder.endRow();
        // Ends of 365 with e = 0 bring N up while A stays 2: K is 1, then 0.
        for (int x = 0; x < 11; x++) {
            line.back(x, coder.sample(x, above[x]));
        }
        state(coder, 0, 365, 2, 0, 0, 3);
        // 1 predicted; 3 is an e of 2, brought to -2; K is 0, 2 M is below N: it does not turn.
        due("coder's RANGE", coder.sample(11, 3), 4);
        due("back of RANGE", line.back(11, 4), 3);
        state(line, 1, 365, 4, 1, 0, 4);
    }

    private void backTurnsOver() {
        promise = "5, back goes over";
        LinePredict line = new LinePredict(4, 8, 3);
        // RANGE STEP is 266. e = 18 of 0 is 126; then 126 predicted, SIGN -1.
        due("back(0, 35)", line.back(0, 35), 126);
        // e = -18: 126 + 126 = 252 is within MAX + NEAR.
        due("back(1, 35)", line.back(1, 35), 252);
        // C is -1: 253 predicted; e = -1: 260 is above 258: less by 266, and brought to 0.
        due("back(2, 1)", line.back(2, 1), 0);
        due("predicted()", line.predicted(), 253);
        LinePredict within = new LinePredict(4, 8, 3);
        within.back(0, 35);
        within.back(1, 33);
        due("C is -1", within.state(1, 4, 2), -1);
        // 245 + 1 predicted; e = -1 is 253; e = -2 would be 260.
        due("back(2, 1)", within.back(2, 1), 253);
        LinePredict below = new LinePredict(4, 8, 3);
        // e = -1 of 0: -7 is below -3: more by 266, 259, brought to 255.
        due("back(0, 0)", below.back(0, 0), 255);
        LinePredict edge = new LinePredict(4, 8, 3);
        // e = 1: 7; then 7 predicted with SIGN -1, e = 1: 0; then a is 0 and all is flat.
        edge.back(0, 1);
        due("back(1, 2)", edge.back(1, 2), 0);
        due("a run now", edge.back(2, RUN), 0);
    }

    private void endRow() {
        promise = "6, endRow";
        LinePredict line = new LinePredict(2, 8, 0);
        due("at first", line.endRow(), false);
        line.sample(0, 0);
        due("in the midst", line.endRow(), false);
        line.sample(1, 9);
        line.back(0, RUN);
        due("the coder's", line.endRow(), true);
        settings(line, 255, 256, 0, 3, 7, 21, 64, 0, 1, 1, 0);
        due("again", line.endRow(), false);
        line.back(1, RUN);
        due("the decoder's", line.endRow(), true);
        settings(line, 255, 256, 0, 3, 7, 21, 64, 0, 1, 0, 1);
        line.sample(0, 0);
        line.sample(1, 0);
        line.back(0, RUN);
        line.back(1, RUN);
        due("both", line.endRow(), true);
        settings(line, 255, 256, 0, 3, 7, 21, 64, 0, 2, 0, 2);
        due("both again", line.endRow(), false);
    }

    private void neighbours() {
        promise = "9, neighbour";
        LinePredict line = new LinePredict(3, 8, 0);
        int[][] rows = {{10, 20, 30}, {40, 50, 60}, {70, 80, 90}};
        int[][] due = {
            {0, 0, 0, 0, 10}, {10, 0, 0, 0, 20}, {20, 0, 0, 0, 30},
            {10, 10, 0, 20, 40}, {40, 20, 10, 30, 50}, {50, 30, 20, 30, 60},
            {40, 40, 10, 50, 70}, {70, 50, 40, 60, 80}, {80, 60, 50, 60, 90}};
        for (int i = 0; i < 9; i++) {
            line.sample(i % 3, rows[i / 3][i % 3]);
            for (int k = 0; k < 5; k++) {
                due("neighbour(" + k + ") of sample " + i, line.neighbour(k), due[i][k]);
            }
            line.endRow();
        }
        for (int k : new int[] {-1, 5, Integer.MIN_VALUE, Integer.MAX_VALUE}) {
            fails("neighbour(" + k + ")", () -> line.neighbour(k), INDEX);
            fails("neighbour(" + k + ") of a new one", () -> new LinePredict(1, 8, 0).neighbour(k), INDEX);
        }
        LinePredict narrow = new LinePredict(1, 8, 0);
        int[][] column = {{0, 0, 0, 0, 5}, {5, 5, 0, 5, 7}, {7, 7, 5, 7, 9}};
        for (int y = 0; y < 3; y++) {
            narrow.sample(0, 5 + 2 * y);
            narrow.endRow();
            for (int k = 0; k < 5; k++) {
                due("neighbour(" + k + ") of row " + y, narrow.neighbour(k), column[y][k]);
            }
        }
        line.back(0, 11);
        int[] decoded = {0, 0, 0, 0, 6};
        for (int k = 0; k < 5; k++) {
            due("neighbour(" + k + ") of the decoder", line.neighbour(k), decoded[k]);
        }
    }

    private void contextAndPredicted() {
        promise = "7 and 8, context and predicted";
        LinePredict line = new LinePredict(3, 8, 0);
        line.sample(0, 10);
        line.sample(1, 30);
        // a = 10: c - a is -10, at most -T2: context 3 with SIGN -1.
        due("context by a", line.context(), 3);
        due("predicted by a", line.predicted(), 10);
        line.sample(2, 5);
        due("context by 30", line.context(), 4);
        due("predicted by 30", line.predicted(), 30);
        line.endRow();
        // a = b = 10, c = 0, d = 30: 20, 10, -10: 3 3 -3.
        line.sample(0, 12);
        due("context of three", line.context(), 81 * 3 + 9 * 3 - 3);
        due("predicted of three", line.predicted(), 10);
        // a = 12, b = 30, c = 10, d = 5: -25, 20, -2: -4 3 -1, SIGN -1; c is not above both: 30.
        line.sample(1, 12);
        due("context below 0", line.context(), 324 - 27 + 1);
        due("predicted of the greater", line.predicted(), 30);
        // a = 12, b = 5, c = 30, d = 5: 0, -25, 18: 0 -4 3, SIGN -1; c is above both: 5.
        line.sample(2, 9);
        due("context of an end", line.context(), 36 - 3);
        due("predicted of the lesser", line.predicted(), 5);
        line.endRow();
        // a = b = 12, c = 10, d = 12: 0, 2, -2: 0 1 -1.
        line.sample(0, 14);
        due("context of small ones", line.context(), 8);
        // a = 14, b = 12, c = 12, d = 9: -3, 0, -2: -2 0 -1, SIGN -1; c is not above both.
        line.sample(1, 14);
        due("context at -T1", line.context(), 163);
        due("predicted at c = b", line.predicted(), 14);
        // The decoder's first sample is the last one told now.
        line.back(0, RUN);
        due("context in a run", line.context(), 0);
        due("predicted in a run", line.predicted(), 0);
        // a = 14, b = 9, c = 12, d = 9: 0, -3, -2: 0 -2 -1, SIGN -1; c is between: 14 + 9 - 12.
        line.sample(2, 9);
        due("context of the coder again", line.context(), 19);
        due("predicted of c between", line.predicted(), 11);
    }

    private void stateWrong() {
        promise = "10, state, wrong";
        LinePredict line = new LinePredict(3, 8, 0);
        for (int wrong : new int[] {-1, 367, 400, Integer.MIN_VALUE, Integer.MAX_VALUE}) {
            fails("side " + wrong, () -> line.state(wrong, 1, 0), INDEX);
            fails("context " + wrong, () -> line.state(0, wrong, 0), INDEX);
            fails("thing " + wrong, () -> line.state(0, 1, wrong), INDEX);
        }
        fails("side 2", () -> line.state(2, 1, 0), INDEX);
        fails("context 0", () -> line.state(1, 0, 0), INDEX);
        fails("thing 4", () -> line.state(1, 366, 4), INDEX);
    }

    private void runs() {
        promise = "11, runs";
        LinePredict line = new LinePredict(4, 8, 0);
        line.sample(0, 9);
        due("one that ended at once", line.runs(), 1);
        line.sample(1, 0);
        due("no run", line.runs(), 1);
        line.sample(2, 0);
        due("a second", line.runs(), 2);
        line.sample(3, 0);
        due("that goes on", line.runs(), 2);
        line.back(0, RUN);
        due("the decoder's", line.runs(), 3);
        line.back(1, 1);
        due("that ends", line.runs(), 3);
        fails("RUN in no run", () -> line.back(2, RUN), ARGUMENT);
        due("after what was wrong", line.runs(), 3);
        LinePredict decoding = new LinePredict(4, 8, 0);
        fails("an end that is none", () -> decoding.back(0, 256), ARGUMENT);
        due("nothing begun", decoding.runs(), 0);
        decoding.back(0, 9);
        due("the decoder's that ended at once", decoding.runs(), 1);
    }

    private void quantised() {
        promise = "12, quantised";
        LinePredict exact = new LinePredict(3, 8, 0);
        LinePredict lossy = new LinePredict(3, 8, 3);
        int[][] due = {
            {0, 0, 0}, {3, 3, 0}, {4, 4, 1}, {10, 10, 1}, {11, 11, 2}, {-3, -3, 0}, {-4, -4, -1}, {-10, -10, -1},
            {-11, -11, -2}, {70000, 70000, 10000}, {-70000, -70000, -10000}};
        for (int[] row : due) {
            due("quantised(" + row[0] + ")", exact.quantised(row[0]), row[1]);
            due("quantised(" + row[0] + ") with NEAR 3", lossy.quantised(row[0]), row[2]);
        }
        for (int error : new int[] {70001, -70001, Integer.MIN_VALUE, Integer.MAX_VALUE}) {
            fails("quantised(" + error + ")", () -> lossy.quantised(error), ARGUMENT);
        }
    }

    private void setting() {
        promise = "13, setting";
        LinePredict line = new LinePredict(2, 8, 1);
        line.thresholds(5, 6, 7);
        line.reset(9);
        settings(line, 255, 86, 1, 5, 6, 7, 9, 0, 0, 0, 0);
        line.sample(0, 3);
        settings(line, 255, 86, 1, 5, 6, 7, 9, 1, 0, 0, 0);
        line.sample(1, 3);
        line.endRow();
        line.back(0, RUN);
        settings(line, 255, 86, 1, 5, 6, 7, 9, 0, 1, 1, 0);
        line.back(1, RUN);
        line.endRow();
        settings(line, 255, 86, 1, 5, 6, 7, 9, 0, 1, 0, 1);
        for (int k : new int[] {-1, 11, Integer.MIN_VALUE, Integer.MAX_VALUE}) {
            fails("setting(" + k + ")", () -> line.setting(k), INDEX);
        }
    }

    private void throwingChangesNothing() {
        promise = "a call that throws changes nothing";
        LinePredict line = new LinePredict(3, 8, 0);
        line.sample(0, 40);
        line.back(0, 9);
        String before = everything(line);
        fails("sample's place", () -> line.sample(0, 40), STATE);
        fails("sample's number", () -> line.sample(1, 256), ARGUMENT);
        fails("back's place", () -> line.back(0, 9), STATE);
        fails("back's number", () -> line.back(1, -1), ARGUMENT);
        fails("back's RUN", () -> line.back(1, RUN), ARGUMENT);
        fails("back's error", () -> line.back(1, 256), ARGUMENT);
        fails("thresholds", () -> line.thresholds(4, 5, 6), STATE);
        fails("reset", () -> line.reset(7), STATE);
        fails("quantised", () -> line.quantised(70001), ARGUMENT);
        due("everything", everything(line), before);
        due("the next", line.back(1, 0), 5);
    }

    private static String everything(LinePredict line) {
        StringBuilder all = new StringBuilder();
        all.append(line.context()).append(' ').append(line.predicted()).append(' ').append(line.runs());
        for (int k = 0; k < 5; k++) {
            all.append(' ').append(line.neighbour(k));
        }
        for (int k = 0; k < 11; k++) {
            all.append(' ').append(line.setting(k));
        }
        for (int side = 0; side < 2; side++) {
            for (int q = 1; q <= 366; q++) {
                for (int what = 0; what < 4; what++) {
                    all.append(' ').append(line.state(side, q, what));
                }
            }
        }
        return all.toString();
    }
}
