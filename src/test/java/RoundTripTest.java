import java.util.Random;

/** What the coder tells, the decoder makes again: samples at most NEAR away, and both sides learn the same. */
public final class RoundTripTest {
    private final Check check = new Check();

    public static void main(String[] args) {
        RoundTripTest test = new RoundTripTest();
        for (int bits = 2; bits <= 16; bits++) {
            int half = Math.min(255, ((1 << bits) - 1) / 2);
            for (int near : new int[] {0, 1, 2, 3, 7, 100, half - 1, half}) {
                for (int steps : new int[] {0, 1, 2, 3}) {
                    test.picture(1 + (bits * 7 + near + steps) % 16, 16, bits, near, steps);
                }
            }
        }
        // Wider than an object's promised life: the row has to grow behind its first 512 samples.
        test.picture(512, 2, 8, 0, 2);
        test.picture(513, 3, 8, 1, 2);
        test.picture(1500, 3, 12, 2, 1);
        test.picture(65536, 2, 16, 0, 0);
        test.check.finish();
    }

    private void picture(int width, int height, int bits, int near, int kind) {
        String name = width + " x " + height + ", bits " + bits + ", near " + near + ", kind " + kind;
        Random random = new Random(name.hashCode());
        LinePredict line = new LinePredict(width, bits, near);
        line.reset(3 + random.nextInt(20));
        int max = line.setting(0);
        int allowed = line.setting(2);
        int old = 0;
        for (int y = 0; y < height && !check.anyWrong(); y++) {
            for (int x = 0; x < width && !check.anyWrong(); x++) {
                old = next(random, kind, max, old);
                int folded = line.sample(x, old);
                String coded = told(line);
                int rebuilt = line.back(x, folded);
                check.same(name + ": told at " + x + ", " + y, told(line), coded);
                check.same(name + ": near at " + x + ", " + y, Math.abs(rebuilt - old) <= allowed, true);
            }
            check.same(name + ": endRow()", line.endRow(), true);
        }
        check.same(name + ": runs even", line.runs() % 2, 0);
        for (int q = 1; q <= 366; q++) {
            for (int what = 0; what < 4; what++) {
                check.same(name + ": state of " + q + ", " + what, line.state(1, q, what), line.state(0, q, what));
            }
        }
    }

    private static int next(Random random, int kind, int max, int old) {
        switch (kind) {
            case 0:
                return random.nextInt(max + 1);
            case 1:
                return random.nextInt(5) == 0 ? random.nextInt(max + 1) : old;
            case 2:
                return Math.max(0, Math.min(max, old + random.nextInt(9) - 4));
            default:
                return random.nextBoolean() ? max : 0;
        }
    }

    private static String told(LinePredict line) {
        StringBuilder all = new StringBuilder().append(line.context()).append(' ').append(line.predicted());
        for (int k = 0; k < 5; k++) {
            all.append(' ').append(line.neighbour(k));
        }
        return all.toString();
    }
}
