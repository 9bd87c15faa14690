import java.util.Random;
import java.util.function.Supplier;

/** Runs of 512 calls, sensible and senseless, on LinePredict and on the model beside it: all answers are the same. */
public final class ModelTest {
    private static final int[] EDGES = {
        Integer.MIN_VALUE, Integer.MIN_VALUE + 1, -70001, -70000, -1, 0, 1, 2, 3, 4, 5, 10, 11, 63, 64, 255, 256, 257,
        364, 365, 366, 367, 65535, 65536, 65537, 70000, 70001, Integer.MAX_VALUE};
    private static final int OBJECTS = 6000;
    private static final int CALLS_FOR_THE_LAST_LOOK = 100;
    private static final int CALLS_OF_ONE_ROUND = 20;

    private final Check check;
    private final Random random;
    private final Line real;
    private final Model model;
    private final int noise;
    private final boolean chatty;
    private final int[] folds = new int[Line.MOST_CALLS];
    private final int[] contexts = new int[Line.MOST_CALLS];
    private int folded = 0;
    private int unfolded = 0;
    private int told = 0;

    private ModelTest(Check check, int seed) {
        this.check = check;
        random = new Random(seed);
        int width = random.nextInt(8) == 0 ? edge() : 1 + random.nextInt(random.nextBoolean() ? 5 : 24);
        int bits = random.nextInt(16) == 0 ? edge() : 2 + random.nextInt(15);
        int near = random.nextInt(16) == 0 ? edge() : random.nextInt(3) == 0 ? random.nextInt(260) : random.nextInt(4);
        noise = random.nextInt(4);
        chatty = random.nextInt(3) == 0;
        check.sentence("seed " + seed + " (" + width + ", " + bits + ", " + near + ")");
        real = new Line(width, bits, near);
        model = new Model(width, bits, near);
    }

    public static void main(String[] args) {
        Check check = new Check();
        everyBitsAndNear(check);
        for (int seed = 1; seed <= OBJECTS && !check.anyWrong(); seed++) {
            new ModelTest(check, seed).run();
        }
        check.finish();
    }

    private static void everyBitsAndNear(Check check) {
        for (int bits = 1; bits <= 17; bits++) {
            for (int near = -1; near <= 256; near++) {
                check.sentence("(3, " + bits + ", " + near + ")");
                Line real = new Line(3, bits, near);
                Model model = new Model(3, bits, near);
                for (int k = 0; k < 11; k++) {
                    check.same("setting(" + k + ")", real.setting(k), model.setting(k));
                }
                check.same("state(0, 1, 0)", real.state(0, 1, 0), model.state(0, 1, 0));
            }
        }
    }

    private void run() {
        int settings = random.nextInt(6);
        for (int i = 0; i < settings; i++) {
            changeSettings();
        }
        while (real.callsLeft() > CALLS_FOR_THE_LAST_LOOK + CALLS_OF_ONE_ROUND && !check.anyWrong()) {
            int kind = random.nextInt(chatty ? 40 : 400);
            if (kind < 4) {
                changeSettings();
            } else if (kind < 12) {
                ask();
            } else if (kind < 16) {
                tell(random.nextInt(2), edge(), edge());
            } else if (unfolded < folded && random.nextBoolean()) {
                giveBack();
            } else if (random.nextInt(40) == 0 && unfolded == folded) {
                tell(1, (Integer) model.setting(9), random.nextInt(3) == 0 ? LinePredict.RUN : random.nextInt(9));
            } else {
                tellSample();
            }
        }
        lookAtLast();
    }

    private void compare(String call, Supplier<Object> got, Object due) {
        check.same("call " + (Line.MOST_CALLS - real.callsLeft() + 1) + " " + call, Check.answer(got), due);
    }

    private void changeSettings() {
        int max = (Integer) model.setting(0);
        int[] t = new int[3];
        for (int i = 0; i < 3; i++) {
            t[i] = random.nextInt(6) == 0 ? edge() : random.nextInt(max + 2);
        }
        if (random.nextInt(4) != 0) {
            java.util.Arrays.sort(t);
        }
        int at = random.nextBoolean() ? edge() : random.nextInt(12);
        compare("thresholds(" + java.util.Arrays.toString(t) + ")", () -> real.thresholds(t[0], t[1], t[2]),
            model.thresholds(t[0], t[1], t[2]));
        compare("reset(" + at + ")", () -> real.reset(at), model.resetTo(at));
    }

    private void ask() {
        int k = random.nextBoolean() ? random.nextInt(12) : edge();
        int e = random.nextBoolean() ? random.nextInt(140003) - 70001 : edge();
        Object due = e < -70000 || e > 70000 ? "IllegalArgumentException" : (Object) model.quantised(e);
        compare("quantised(" + e + ")", () -> real.quantised(e), due);
        compare("setting(" + k + ")", () -> real.setting(k), model.setting(k));
        compare("neighbour(" + k + ")", () -> real.neighbour(k), model.neighbour(k));
        askState(random.nextBoolean() ? random.nextInt(2) : edge(), edge(), random.nextBoolean() ? k : random.nextInt(4));
        compare("endRow()", real::endRow, model.endRow());
    }

    private void askState(int side, int q, int what) {
        compare("state(" + side + ", " + q + ", " + what + ")", () -> real.state(side, q, what),
            model.state(side, q, what));
    }

    private void askOfLastSample() {
        compare("context()", real::context, model.context);
        compare("predicted()", real::predicted, model.predicted);
        compare("runs()", real::runs, model.runs);
        for (int i = 0; i < 5; i++) {
            int k = i;
            compare("neighbour(" + k + ")", () -> real.neighbour(k), model.neighbour(k));
        }
    }

    private void lookAtLast() {
        askOfLastSample();
        for (int i = 0; i < 11; i++) {
            int k = i;
            compare("setting(" + k + ")", () -> real.setting(k), model.setting(k));
        }
        while (told > 0 && real.callsLeft() >= 8) {
            int q = contexts[random.nextInt(told)];
            for (int i = 0; i < 8; i++) {
                askState(i / 4, q, i % 4);
            }
        }
    }

    private Object tell(int side, int x, int number) {
        Object due = model.tell(side, x, number);
        if (side == 0) {
            compare("sample(" + x + ", " + number + ")", () -> real.sample(x, number), due);
        } else {
            compare("back(" + x + ", " + number + ")", () -> real.back(x, number), due);
        }
        contexts[told++] = model.context == 0 ? 366 : model.context;
        if (random.nextInt(chatty ? 2 : 16) == 0) {
            askOfLastSample();
        }
        return due;
    }

    private void tellSample() {
        int x = (Integer) model.setting(7);
        Object got = tell(0, x, likelySample());
        if (got instanceof Integer number) {
            folds[folded++] = number;
        }
        if (x >= model.width) {
            compare("endRow()", real::endRow, model.endRow());
        }
    }

    private int likelySample() {
        int max = model.max;
        int old = model.neighbours[4];
        switch (noise) {
            case 0:
                return random.nextInt(max + 1);
            case 1:
                return random.nextInt(9) == 0 ? random.nextInt(max + 1) : old;
            case 2:
                return Math.max(0, Math.min(max, old + random.nextInt(7) - 3));
            default:
                return random.nextBoolean() ? 0 : max - random.nextInt(Math.min(max, 4));
        }
    }

    private void giveBack() {
        int x = (Integer) model.setting(9);
        if (x >= model.width) {
            compare("endRow()", real::endRow, model.endRow());
            return;
        }
        if (tell(1, x, folds[unfolded]) instanceof Integer) {
            unfolded++;
        } else {
            // A stray sample has set the decoder on another way than the coder's.
            unfolded = folded;
        }
    }

    private int edge() {
        return EDGES[random.nextInt(EDGES.length)];
    }
}
