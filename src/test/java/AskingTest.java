/** Promises 10 and 13: the first and the last number that state() and setting() take, and those just outside. */
public final class AskingTest {
    private static final int LEAST = Integer.MIN_VALUE;
    private static final int MOST = Integer.MAX_VALUE;

    private final Check check = new Check();

    public static void main(String[] args) {
        AskingTest test = new AskingTest();
        test.sides();
        test.contexts();
        test.things();
        test.noCorrectionOfEnds();
        test.settings();
        test.settingsThatAreNone();
        test.placesAndRows();
        test.check.finish();
    }

    private void sides() {
        check.sentence("state: the coder (side 0) or decoder (1). IndexOutOfBounds: there is no such side");
        Line line = new Line(3, 8, 0);
        line.sample(0, 9);
        check.same("A of the coder", line.state(0, 366, 0), 12);
        check.same("A of the decoder", line.state(1, 366, 0), 4);
        line.back(0, 1);
        check.same("N of the coder", line.state(0, 366, 3), 2);
        check.same("N of the decoder", line.state(1, 366, 3), 2);
        check.same("A of the decoder", line.state(1, 366, 0), 4);
        for (int side : new int[] {LEAST, -1, 2, 3, MOST}) {
            for (int what = 0; what < 4; what++) {
                int thing = what;
                check.refused("side " + side, () -> line.state(side, 1, thing), Check.INDEX);
                check.refused("side " + side, () -> line.state(side, 366, thing), Check.INDEX);
            }
        }
    }

    private void contexts() {
        check.sentence("contexts 1 .. 366. IndexOutOfBounds: there is no such context");
        Line line = new Line(3, 8, 0);
        for (int side = 0; side < 2; side++) {
            int asked = side;
            for (int q : new int[] {1, 2, 364, 365, 366}) {
                check.state(line, side, q, 4, 0, 0, 1);
            }
            for (int q : new int[] {LEAST, -366, -1, 0, 367, 368, MOST}) {
                for (int what = 0; what < 4; what++) {
                    int thing = what;
                    check.refused("context " + q, () -> line.state(asked, q, thing), Check.INDEX);
                }
            }
        }
    }

    private void things() {
        check.sentence("state: A (what = 0), B, or M (1), C (2), N (3). IndexOutOfBounds: there is no such thing");
        Line line = new Line(4, 8, 0);
        line.sample(0, 100);
        line.sample(1, 150);
        check.state(line, 0, 4, 54, -1, -1, 2);
        line.sample(2, 0);
        line.sample(3, 255);
        check.state(line, 0, 366, 103, 1, 0, 3);
        for (int side = 0; side < 2; side++) {
            int asked = side;
            for (int what : new int[] {LEAST, -1, 4, 5, MOST}) {
                for (int q : new int[] {1, 4, 364, 365, 366}) {
                    check.refused("thing " + what + " of " + q, () -> line.state(asked, q, what), Check.INDEX);
                }
            }
        }
    }

    private void noCorrectionOfEnds() {
        check.sentence("state: C, for 365 and 366 0 (2)");
        Pair pair = new Pair(check, 3, 7, 0);
        pair.tell(0, 0, 50);
        for (int i = 1; i < 9; i++) {
            pair.tell(0, 0, 50 - 5 * i);
        }
        for (int side = 0; side < 2; side++) {
            check.same("M of 365", pair.line.state(side, 365, 1), 8);
            check.same("C of 365", pair.line.state(side, 365, 2), 0);
            check.same("N of 366", pair.line.state(side, 366, 3), 2);
            check.same("C of 366", pair.line.state(side, 366, 2), 0);
        }
    }

    private void settings() {
        check.sentence("setting: MAX (k = 0), RANGE (1), NEAR (2), T1, T2, T3 (3 to 5), RESET (6), ..");
        Line line = new Line(2, 8, 1);
        check.settings(line, 0, 255, 86, 1, 6, 12, 28, 64, 0, 0, 0, 0);
        line.thresholds(5, 8, 9);
        line.reset(10);
        check.settings(line, 0, 255, 86, 1, 5, 8, 9, 10, 0, 0, 0, 0);
    }

    private void settingsThatAreNone() {
        check.sentence("setting: k = 0 .. 10. IndexOutOfBounds: there is no such thing");
        Line line = new Line(2, 8, 1);
        for (int times = 0; times < 2; times++) {
            for (int k : new int[] {LEAST, -11, -1, 11, 12, MOST}) {
                check.refused("setting(" + k + ")", () -> line.setting(k), Check.INDEX);
            }
            check.same("setting(0)", line.setting(0), 255);
            line.sample(times, 9);
        }
    }

    private void placesAndRows() {
        check.sentence("setting: the place of the coder's next sample (7), and row (8), those of the decoder (9, 10)");
        Line line = new Line(3, 8, 0);
        check.settings(line, 7, 0, 0, 0, 0);
        line.sample(0, 9);
        check.settings(line, 7, 1, 0, 0, 0);
        line.sample(1, 9);
        check.settings(line, 7, 2, 0, 0, 0);
        line.back(0, 0);
        check.settings(line, 7, 2, 0, 1, 0);
        line.sample(2, 9);
        line.endRow();
        check.settings(line, 7, 0, 1, 1, 0);
        line.back(1, 0);
        line.back(2, 0);
        line.endRow();
        check.settings(line, 7, 0, 1, 0, 1);
        line.sample(0, 9);
        check.settings(line, 7, 1, 1, 0, 1);
        line.sample(1, 9);
        line.sample(2, 9);
        line.endRow();
        check.settings(line, 7, 0, 2, 0, 1);
    }
}
