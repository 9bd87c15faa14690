/** Promises 2 and 3: what thresholds() and reset() take, what they do not, and when they are refused. */
public final class SettingsTest {
    private static final int LEAST = Integer.MIN_VALUE;
    private static final int MOST = Integer.MAX_VALUE;

    private final Check check = new Check();

    public static void main(String[] args) {
        SettingsTest test = new SettingsTest();
        test.thresholdsTaken();
        test.thresholdsNotFromNear();
        test.thresholdsNotToMax();
        test.thresholdsFalling();
        test.thresholdsRefused();
        test.thresholdsRefusedFirst();
        test.thresholdsOfTheNarrowest();
        test.resetTaken();
        test.resetNotTaken();
        test.resetRefused();
        test.notTooLateYet();
        test.check.finish();
    }

    private void thresholdsTaken() {
        check.sentence("Other thresholds: NEAR + 1 to MAX");
        int[][] taken = {{3, 3, 3}, {3, 3, 255}, {3, 255, 255}, {255, 255, 255}, {3, 4, 5}, {10, 10, 20}, {10, 20, 20}};
        for (int[] t : taken) {
            Line line = new Line(4, 8, 2);
            check.same("thresholds" + shown(t), line.thresholds(t[0], t[1], t[2]), true);
            check.settings(line, 0, 255, 52, 2, t[0], t[1], t[2], 64, 0, 0, 0, 0);
            check.same("the first ones again", line.thresholds(9, 17, 35), true);
            check.settings(line, 3, 9, 17, 35);
        }
    }

    private void notTaken(int bits, int near, int[][] none, int... first) {
        Line line = new Line(4, bits, near);
        for (int[] t : none) {
            check.same("thresholds" + shown(t), line.thresholds(t[0], t[1], t[2]), false);
            check.settings(line, 3, first);
        }
    }

    private void thresholdsNotFromNear() {
        check.sentence("thresholds: false, if they are not NEAR + 1 ..");
        int[][] none = {{2, 2, 2}, {2, 3, 3}, {2, 9, 200}, {0, 3, 3}, {-1, 3, 3}, {LEAST, 3, 3}, {LEAST, LEAST, LEAST}};
        notTaken(8, 2, none, 9, 17, 35);
        notTaken(8, 0, new int[][] {{0, 0, 0}, {0, 1, 1}, {0, 7, 21}, {-1, 7, 21}}, 3, 7, 21);
        notTaken(16, 255, new int[][] {{255, 256, 257}, {255, 255, 255}}, 783, 1342, 2061);
    }

    private void thresholdsNotToMax() {
        check.sentence("thresholds: false, if they are not .. to MAX");
        int[][] none = {{256, 256, 256}, {3, 256, 256}, {3, 3, 256}, {3, 255, 256}, {3, 9, MOST}, {MOST, MOST, MOST}};
        notTaken(8, 2, none, 9, 17, 35);
        notTaken(16, 0, new int[][] {{18, 67, 65536}, {65536, 65536, 65536}}, 18, 67, 276);
    }

    private void thresholdsFalling() {
        check.sentence("thresholds: false, if one is less than that before");
        int[][] none = {{5, 4, 6}, {5, 6, 5}, {6, 5, 5}, {6, 6, 5}, {7, 6, 5}, {255, 3, 3}, {3, 255, 254}, {9, LEAST, 35}};
        notTaken(8, 2, none, 9, 17, 35);
    }

    private void thresholdsRefused() {
        check.sentence("thresholds: IllegalState: a sample was told, on whichever side");
        Line coded = new Line(4, 8, 0);
        coded.sample(0, 9);
        Line decoded = new Line(4, 8, 0);
        decoded.back(0, 9);
        Line codedInRun = new Line(4, 8, 0);
        codedInRun.sample(0, 0);
        Line decodedInRun = new Line(4, 8, 0);
        decodedInRun.back(0, LinePredict.RUN);
        Line ended = new Line(1, 8, 0);
        ended.sample(0, 9);
        ended.endRow();
        for (Line line : new Line[] {coded, decoded, codedInRun, decodedInRun, ended}) {
            check.refused("thresholds(4, 8, 22)", () -> line.thresholds(4, 8, 22), Check.STATE);
            check.settings(line, 3, 3, 7, 21);
        }
    }

    private void thresholdsRefusedFirst() {
        check.sentence("thresholds: IllegalState (first)");
        Line line = new Line(4, 8, 0);
        line.sample(0, 9);
        check.refused("none of them right", () -> line.thresholds(0, 0, 0), Check.STATE);
        check.refused("falling", () -> line.thresholds(9, 8, 7), Check.STATE);
        check.refused("above MAX", () -> line.thresholds(9, 9, 256), Check.STATE);
    }

    /** Of 2 bits with NEAR 1 only 2 and 3 are left. */
    private void thresholdsOfTheNarrowest() {
        check.sentence("Other thresholds: NEAR + 1 to MAX");
        Line line = new Line(1, 2, 1);
        check.same("thresholds(2, 2, 2)", line.thresholds(2, 2, 2), true);
        check.same("thresholds(2, 3, 3)", line.thresholds(2, 3, 3), true);
        check.same("thresholds(1, 3, 3)", line.thresholds(1, 3, 3), false);
        check.same("thresholds(2, 3, 4)", line.thresholds(2, 3, 4), false);
        check.settings(line, 3, 2, 3, 3);
    }

    private void resetTaken() {
        check.sentence("Another RESET: 3 .. 255");
        Line line = new Line(4, 8, 0);
        for (int at : new int[] {3, 4, 254, 255, 64, 63}) {
            check.same("reset(" + at + ")", line.reset(at), true);
            check.settings(line, 0, 255, 256, 0, 3, 7, 21, at, 0, 0, 0, 0);
        }
    }

    private void resetNotTaken() {
        check.sentence("reset: false, if it is not 3 .. 255");
        Line line = new Line(4, 8, 0);
        for (int at : new int[] {2, 1, 0, -3, LEAST, 256, 257, MOST}) {
            check.same("reset(" + at + ")", line.reset(at), false);
            check.same("setting(6)", line.setting(6), 64);
        }
        line.reset(3);
        check.same("reset(2) after reset(3)", line.reset(2), false);
        check.same("setting(6)", line.setting(6), 3);
    }

    private void resetRefused() {
        check.sentence("reset: IllegalState: a sample was told");
        Line coded = new Line(4, 8, 0);
        coded.sample(0, 9);
        Line decoded = new Line(4, 8, 0);
        decoded.back(0, 9);
        Line codedInRun = new Line(4, 8, 0);
        codedInRun.sample(0, 0);
        Line decodedInRun = new Line(4, 8, 0);
        decodedInRun.back(0, LinePredict.RUN);
        for (Line line : new Line[] {coded, decoded, codedInRun, decodedInRun}) {
            for (int at : new int[] {3, 255, 64, 2, 256}) {
                check.refused("reset(" + at + ")", () -> line.reset(at), Check.STATE);
                check.same("setting(6)", line.setting(6), 64);
            }
        }
    }

    /** Calls that tell no sample, those that are refused among them, leave both still allowed. */
    private void notTooLateYet() {
        check.sentence("a sample was told; a call that throws changes nothing");
        Line line = new Line(4, 8, 0);
        line.endRow();
        line.quantised(5);
        check.refused("a wrong sample", () -> line.sample(0, 256), Check.ARGUMENT);
        check.refused("a wrong place", () -> line.sample(1, 0), Check.STATE);
        check.refused("a wrong error", () -> line.back(0, -1), Check.ARGUMENT);
        check.refused("an error that is another one", () -> line.back(0, 255), Check.ARGUMENT);
        check.refused("the decoder's wrong place", () -> line.back(1, 0), Check.STATE);
        check.same("thresholds(4, 8, 22)", line.thresholds(4, 8, 22), true);
        check.same("reset(5)", line.reset(5), true);
        check.settings(line, 3, 4, 8, 22, 5);
    }

    private static String shown(int[] t) {
        return "(" + t[0] + ", " + t[1] + ", " + t[2] + ")";
    }
}
