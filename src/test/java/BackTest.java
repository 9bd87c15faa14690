/** Promise 5: what back() takes, the numbers that no sample can have given, and how what is rebuilt goes over. */
public final class BackTest {
    private static final int RUN = LinePredict.RUN;
    private static final int NONE = -1;

    private final Check check = new Check();

    public static void main(String[] args) {
        BackTest test = new BackTest();
        test.ordinary();
        test.noneOfThese();
        test.runWhereNoneIs();
        test.anotherErrorByGradients();
        test.anotherErrorFoldedTheOtherWay();
        test.anotherErrorOfAnOddRange();
        test.anotherErrorAtAnEnd();
        test.anotherErrorAtAnEndThatTurns();
        test.anotherErrorAtAnEndThatLeansBelow();
        test.anotherErrorAtAnUnlikeEnd();
        test.rangeItself();
        test.everyNumberOfTheNarrowest();
        test.notOverAtMaxAndNear();
        test.overAboveMaxAndNear();
        test.notOverAtNearBelowZero();
        test.overBelowNear();
        test.overOnlyOnce();
        test.check.finish();
    }

    private void ordinary() {
        check.sentence("The decoder's next sample, at place x of its row: rebuilt by what is folded, or RUN");
        Line line = new Line(4, 8, 0);
        int[] told = {RUN, RUN, 179, 32};
        int[] due = {0, 0, 90, 74};
        for (int x = 0; x < 4; x++) {
            check.same("back(" + x + ", " + told[x] + ")", line.back(x, told[x]), due[x]);
            check.same("neighbour(4)", line.neighbour(4), due[x]);
        }
        check.state(line, 1, 366, 93, 0, 0, 2);
        check.state(line, 1, 4, 20, 0, 1, 2);
        check.state(line, 0, 366, 4, 0, 0, 1);
        check.state(line, 0, 4, 4, 0, 0, 1);
        check.settings(line, 7, 0, 0);
    }

    private void noneOfThese() {
        check.sentence("what is folded (0 .. RANGE), or RUN. IllegalArgument: error is none of these");
        int[][] shapes = {{8, 0, 256}, {8, 3, 38}, {2, 0, 4}, {2, 1, 2}, {16, 0, 65536}};
        for (int[] shape : shapes) {
            Line line = new Line(4, shape[0], shape[1]);
            int[] none = {-1, -2, RUN + 1, shape[2] + 1, shape[2] + 2, Integer.MAX_VALUE};
            for (int error : none) {
                check.refused("a flat one's " + error, () -> line.back(0, error), Check.ARGUMENT);
            }
            line.back(0, 0);
            for (int error : none) {
                check.refused("a steep one's " + error, () -> line.back(1, error), Check.ARGUMENT);
            }
            check.settings(line, 9, 1, 0);
        }
    }

    private void runWhereNoneIs() {
        check.sentence("IllegalArgument: RUN, where it is no sample of a run");
        Line line = new Line(4, 8, 0);
        check.same("the first", line.back(0, RUN), 0);
        check.same("its end", line.back(1, 1), 1);
        check.refused("RUN behind the end", () -> line.back(2, RUN), Check.ARGUMENT);
        check.same("a step back to 0", line.back(2, 2), 0);
        check.same("a run again", line.back(3, RUN), 0);
    }

    /** What back() answers of a number at the next place, on an object of its own each time; NONE if it is refused. */
    private void at(int[] told, int bits, int near, int error, int due) {
        Line line = new Line(64, bits, near);
        tellAll(line, 64, told);
        same(line, told.length, error, due);
    }

    private void tellAll(Line line, int width, int[] told) {
        for (int i = 0; i < told.length; i++) {
            line.back(i % width, told[i]);
            if (i % width == width - 1) {
                line.endRow();
            }
        }
    }

    private void same(Line line, int x, int error, int due) {
        Object answer = due == NONE ? "IllegalArgumentException" : (Object) due;
        check.same("back(" + x + ", " + error + ")", Check.answer(() -> line.back(x, error)), answer);
    }

    private void anotherErrorByGradients() {
        check.sentence("IllegalArgument: the e that it is made to, brought by RANGE as told, is another one");
        // 5, then SIGN is -1: 127 is told as 254, -128 as 255, and 256 would be 128.
        int[] five = {9};
        at(five, 8, 0, 253, 132);
        at(five, 8, 0, 254, 134);
        at(five, 8, 0, 255, 133);
        at(five, 8, 0, 256, NONE);
        at(five, 8, 0, 257, NONE);
        int[] most = {0};
        at(most, 16, 0, 65535, 32767);
        at(most, 16, 0, 65536, NONE);
    }

    /** With thresholds of MAX the errors -1, 0 and -1 leave A = N = 4 and B = -2: below 0 is told as an even number. */
    private void otherWay(int error, int due) {
        Line line = new Line(64, 7, 0);
        line.thresholds(127, 127, 127);
        tellAll(line, 64, new int[] {119, 1, 0, 1});
        check.state(line, 1, 1, 4, -2, 0, 4);
        same(line, 4, error, due);
    }

    private void anotherErrorFoldedTheOtherWay() {
        check.sentence("IllegalArgument: the e that it is made to, brought by RANGE as told, is another one");
        otherWay(0, 63);
        otherWay(1, 62);
        otherWay(2, 64);
        otherWay(3, 61);
        otherWay(126, 126);
        otherWay(127, 127);
        otherWay(128, NONE);
        otherWay(129, NONE);
    }

    private void anotherErrorOfAnOddRange() {
        check.sentence("IllegalArgument: the e that it is made to, brought by RANGE as told, is another one");
        // RANGE is 5, STEP 17: 17, then e is -2 .. 2, with SIGN -1.
        int[] step = {1};
        at(step, 6, 8, 0, 17);
        at(step, 6, 8, 1, 34);
        at(step, 6, 8, 2, 0);
        at(step, 6, 8, 3, 51);
        at(step, 6, 8, 4, 63);
        at(step, 6, 8, 5, NONE);
        at(step, 6, 8, 6, NONE);
        // At a run's end: -1, 1, -2, 2 are told as 0 .. 3.
        int[] none = {};
        at(none, 6, 8, 0, 63);
        at(none, 6, 8, 1, 17);
        at(none, 6, 8, 2, 51);
        at(none, 6, 8, 3, 34);
        at(none, 6, 8, 4, NONE);
        at(none, 6, 8, 5, NONE);
        at(none, 6, 8, 6, NONE);
    }

    private void anotherErrorAtAnEnd() {
        check.sentence("IllegalArgument: the e that it is made to, brought by RANGE as told, is another one");
        int[] none = {};
        at(none, 7, 0, 0, 127);
        at(none, 7, 0, 1, 1);
        at(none, 7, 0, 124, 65);
        at(none, 7, 0, 125, 63);
        at(none, 7, 0, 126, 64);
        at(none, 7, 0, 127, NONE);
        at(none, 7, 0, 128, NONE);
        at(none, 7, 0, 129, NONE);
        int[] inRun = {RUN, RUN};
        at(inRun, 7, 0, 126, 64);
        at(inRun, 7, 0, 127, NONE);
    }

    /** Ends of 1 and -1, each with 0 behind it, leave A 2, M 1 and N 3: K is 0, and e above 0 turns. */
    private void anotherErrorAtAnEndThatTurns() {
        check.sentence("IllegalArgument: the e that it is made to, brought by RANGE as told, is another one");
        int[] ends = endsOf(1, 127);
        at(ends, 7, 0, 0, 1);
        at(ends, 7, 0, 1, 127);
        at(ends, 7, 0, 2, 2);
        at(ends, 7, 0, 124, 63);
        at(ends, 7, 0, 125, 65);
        at(ends, 7, 0, 126, NONE);
        at(ends, 7, 0, 127, 64);
        at(ends, 7, 0, 128, NONE);
    }

    /** Ends of 1, -1, 1, -1, -1 leave A 2, M 3 and N 6: K is 0, and e below 0 turns. */
    private void anotherErrorAtAnEndThatLeansBelow() {
        check.sentence("IllegalArgument: the e that it is made to, brought by RANGE as told, is another one");
        int[] ends = endsOf(1, 127, 1, 127, 127);
        at(ends, 7, 0, 0, 127);
        at(ends, 7, 0, 1, 1);
        at(ends, 7, 0, 125, 63);
        at(ends, 7, 0, 126, 64);
        at(ends, 7, 0, 127, NONE);
        at(ends, 7, 0, 128, NONE);
    }

    /** What the coder tells of these samples of 7 bits in a first row, with a 0 behind each. */
    private static int[] endsOf(int... samples) {
        Line coder = new Line(64, 7, 0);
        int[] told = new int[2 * samples.length];
        for (int i = 0; i < told.length; i++) {
            told[i] = coder.sample(i, i % 2 == 0 ? samples[i / 2] : 0);
        }
        return told;
    }

    /** Rows of 0 0 100, told whole once, and as often again as said: the next third sample is 100 with context 365. */
    private void unlike(int rowsAgain, int error, int due) {
        Line line = new Line(3, 7, 0);
        tellAll(line, 3, new int[] {RUN, RUN, 54});
        for (int i = 0; i < rowsAgain; i++) {
            tellAll(line, 3, new int[] {RUN, RUN, 0});
        }
        tellAll(line, 3, new int[] {RUN, RUN});
        same(line, 2, error, due);
    }

    private void anotherErrorAtAnUnlikeEnd() {
        check.sentence("IllegalArgument: the e that it is made to, brought by RANGE as told, is another one");
        unlike(0, 0, 100);
        unlike(0, 1, 99);
        unlike(0, 2, 101);
        unlike(0, 125, 37);
        unlike(0, 126, 35);
        unlike(0, 127, 36);
        unlike(0, 128, NONE);
        unlike(0, 129, NONE);
    }

    /** RANGE itself is told where K is 0 and e above 0 turns, at the end of a run that is unlike what is above. */
    private void rangeItself() {
        check.sentence("rebuilt by what is folded (0 .. RANGE)");
        unlike(1, 0, 100);
        unlike(1, 1, 101);
        unlike(1, 2, 99);
        unlike(1, 125, 35);
        unlike(1, 126, 37);
        unlike(1, 127, NONE);
        unlike(1, 128, 36);
        unlike(1, 129, NONE);
        Line coder = new Line(3, 7, 0);
        int[] samples = {0, 0, 100, 0, 0, 100, 0, 0};
        for (int i = 0; i < 8; i++) {
            coder.sample(i % 3, samples[i]);
            coder.endRow();
        }
        check.same("the coder's RANGE", coder.sample(2, 36), 128);
    }

    /** Of 2 bits with NEAR 1 the only errors are -1 and 0. */
    private void everyNumberOfTheNarrowest() {
        check.sentence("IllegalArgument: the e that it is made to, brought by RANGE as told, is another one");
        int[] none = {};
        at(none, 2, 1, 0, 3);
        at(none, 2, 1, 1, NONE);
        at(none, 2, 1, 2, NONE);
        at(none, 2, 1, 3, NONE);
        int[] three = {0};
        at(three, 2, 1, 0, 3);
        at(three, 2, 1, 1, 0);
        at(three, 2, 1, 2, NONE);
        at(three, 2, 1, 3, NONE);
    }

    private void notOverAtMaxAndNear() {
        check.sentence("less by that, if it is above MAX + NEAR");
        // 168, 171, then 172 is predicted: 84 more is 256.
        at(new int[] {58, 1}, 8, 1, 55, 255);
        at(new int[] {58, 1}, 8, 1, 53, 253);
        at(new int[] {58}, 8, 0, 57, 255);
    }

    private void overAboveMaxAndNear() {
        check.sentence("less by that, if it is above MAX + NEAR");
        // 240, 234, then 233 is predicted: 24 more is 257, and RANGE STEP 258.
        at(new int[] {10, 4}, 8, 1, 15, 0);
        at(new int[] {10, 4}, 8, 1, 17, 2);
        at(new int[] {58}, 8, 0, 59, 0);
        at(new int[] {58}, 8, 0, 61, 1);
    }

    private void notOverAtNearBelowZero() {
        check.sentence("more, if it is below -NEAR");
        // 75, 33, then 32 is predicted: 33 less is -1.
        at(new int[] {49, 28}, 8, 1, 22, 0);
        at(new int[] {49, 28}, 8, 1, 20, 2);
        at(new int[] {1}, 8, 0, 2, 0);
    }

    private void overBelowNear() {
        check.sentence("more, if it is below -NEAR");
        // 48, 105, then 106 is predicted: 108 less is -2.
        at(new int[] {31, 37}, 8, 1, 72, 255);
        at(new int[] {31, 37}, 8, 1, 74, 253);
        at(new int[] {}, 8, 0, 0, 255);
        at(new int[] {1}, 8, 0, 4, 255);
    }

    /**
     * 8 bits with NEAR 3: RANGE STEP is 266, which is more than there are numbers from -NEAR to MAX + NEAR. What goes
     * over beyond the other end stays there, and is brought to 0 .. MAX; no coder tells such numbers.
     */
    private void overOnlyOnce() {
        check.sentence("that goes over by RANGE STEP, before it is brought to 0 .. MAX");
        // -7 is 259.
        at(new int[] {}, 8, 3, 0, 255);
        // 126, 252, then 253 is predicted: 260 is -6.
        at(new int[] {35, 35}, 8, 3, 1, 0);
    }
}
