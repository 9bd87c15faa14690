import java.util.Random;

/** What the coder tells, the decoder makes again: samples at most NEAR away, and both sides learn the same. */
public final class RoundTripTest {
    private static final int SAMPLES = 160;

    private final Check check = new Check();

    public static void main(String[] args) {
        RoundTripTest test = new RoundTripTest();
        for (int bits = 2; bits <= 16; bits++) {
            int half = Math.min(255, ((1 << bits) - 1) / 2);
            for (int near : new int[] {0, 1, 2, 3, 7, 100, half - 1, half}) {
                for (int kind = 0; kind < 4; kind++) {
                    test.picture(1 + (bits * 7 + near + kind) % 16, bits, near, kind);
                }
            }
        }
        test.picture(65536, 8, 0, 2);
        test.check.finish();
    }

    private void picture(int width, int bits, int near, int kind) {
        check.sentence(width + " wide, bits " + bits + ", near " + near + ", kind " + kind);
        Random random = new Random(width * 31L + bits * 1009 + near * 7919L + kind);
        Line line = new Line(width, bits, near);
        line.reset(3 + random.nextInt(20));
        int max = line.setting(0);
        int allowed = line.setting(2);
        int[] contexts = new int[SAMPLES];
        int old = 0;
        for (int i = 0; i < SAMPLES; i++) {
            int x = i % width;
            old = next(random, kind, max, old);
            int rebuilt = line.back(x, line.sample(x, old));
            contexts[i] = i % 16 == 15 || i + 4 > SAMPLES ? line.context() : 0;
            check.same("near at " + i, Math.abs(rebuilt - old) <= allowed, true);
            if (x == width - 1) {
                check.same("endRow() at " + i, line.endRow(), true);
            }
        }
        lookAtBoth(line, contexts);
    }

    private void lookAtBoth(Line line, int[] contexts) {
        check.same("runs even", line.runs() % 2, 0);
        sameState(line, 365);
        sameState(line, 366);
        for (int q : contexts) {
            if (q > 0 && line.callsLeft() >= 8) {
                sameState(line, q);
            }
        }
    }

    private void sameState(Line line, int q) {
        for (int what = 0; what < 4 && line.callsLeft() >= 2; what++) {
            check.same("state of " + q + ", " + what, line.state(1, q, what), line.state(0, q, what));
        }
    }

    private static int next(Random random, int kind, int max, int old) {
        switch (kind) {
            case 0:
                return random.nextInt(max + 1);
            case 1:
                return random.nextInt(5) == 0 ? random.nextInt(max + 1) : old;
            case 2:
                return Math.max(0, Math.min(max, old + random.nextInt(9) - 4));
            default:
                return random.nextBoolean() ? max : 0;
        }
    }
}
