import java.util.Arrays;

/**
 * Samples of a picture's rows told by what their neighbours let expect, as in T.87: the coder makes
 * folded errors of samples, the decoder makes samples of folded errors.
 */
public final class LinePredict {
    public static final int RUN = -2147483648;

    private static final int LAST_OF_GRADIENTS = 364;
    private static final int END_UNLIKE = 365;
    private static final int END_LIKE = 366;

    private final Scale scale;
    private final Side coder;
    private final Side decoder;
    private Outlook last;
    // A look that ends in a throw must leave the last sample's own as it was: the two change places only when told.
    private Outlook spare;
    private int runsBegun;
    private boolean anyTold;

    public LinePredict(int width, int bits, int near) {
        int samples = within(width, 1, 65536);
        scale = new Scale(bits, near);
        coder = new Side(samples, scale);
        decoder = new Side(samples, scale);
        last = new Outlook();
        spare = new Outlook();
        runsBegun = 0;
        anyTold = false;
    }

    public boolean thresholds(int a, int b, int c) throws IllegalStateException {
        if (anyTold) {
            throw new IllegalStateException("a sample was told");
        }
        if (a < scale.near + 1 || b < a || c < b || c > scale.max) {
            return false;
        }
        scale.t1 = a;
        scale.t2 = b;
        scale.t3 = c;
        return true;
    }

    public boolean reset(int at) throws IllegalStateException {
        if (anyTold) {
            throw new IllegalStateException("a sample was told");
        }
        if (at < 3 || at > 255) {
            return false;
        }
        scale.resetAt = at;
        return true;
    }

    public int sample(int x, int v) throws IllegalStateException, IllegalArgumentException {
        if (!coder.awaits(x)) {
            throw new IllegalStateException("it is not this sample's turn");
        }
        if (v < 0 || v > scale.max) {
            throw new IllegalArgumentException("no sample is this number");
        }
        Outlook look = spare;
        coder.lookAhead(look);
        if (look.ofRun) {
            if (Math.abs(v - look.a) <= scale.near) {
                tell(coder, look, look.a, true);
                return RUN;
            }
            look.expectEnd(scale);
        }
        int exact = scale.inSteps(look.sign * (v - look.expected));
        int e = scale.inRange(exact);
        int folded = coder.contexts.fold(look.number, e);
        coder.contexts.learn(look.number, e, folded);
        tell(coder, look, scale.asSample(look.moved(exact, scale)), false);
        return folded;
    }

    public int back(int x, int error) throws IllegalStateException, IllegalArgumentException {
        if (!decoder.awaits(x)) {
            throw new IllegalStateException("it is not this sample's turn");
        }
        if (error != RUN && (error < 0 || error > scale.range)) {
            throw new IllegalArgumentException("nothing folds to this number");
        }
        Outlook look = spare;
        decoder.lookAhead(look);
        if (error == RUN) {
            if (!look.ofRun) {
                throw new IllegalArgumentException("it is no sample of a run");
            }
            tell(decoder, look, look.a, true);
            return look.a;
        }
        if (look.ofRun) {
            look.expectEnd(scale);
        }
        int e = decoder.contexts.unfold(look.number, error);
        if (scale.inRange(e) != e || decoder.contexts.fold(look.number, e) != error) {
            throw new IllegalArgumentException("no error folds to this number here");
        }
        decoder.contexts.learn(look.number, e, error);
        int rebuilt = scale.asSample(scale.turnedOver(look.moved(e, scale)));
        tell(decoder, look, rebuilt, false);
        return rebuilt;
    }

    public boolean endRow() {
        boolean coderGoes = coder.goToNextRow();
        boolean decoderGoes = decoder.goToNextRow();
        return coderGoes || decoderGoes;
    }

    public int context() {
        return last.number;
    }

    public int predicted() {
        return last.expected;
    }

    public int neighbour(int k) throws IndexOutOfBoundsException {
        switch (k) {
            case 0:
                return last.a;
            case 1:
                return last.b;
            case 2:
                return last.c;
            case 3:
                return last.d;
            case 4:
                return last.rebuilt;
            default:
                throw new IndexOutOfBoundsException("there is no such neighbour");
        }
    }

    public int state(int side, int context, int what) throws IndexOutOfBoundsException {
        if (side < 0 || side > 1) {
            throw new IndexOutOfBoundsException("there is no such side");
        }
        if (!Contexts.has(context)) {
            throw new IndexOutOfBoundsException("there is no such context");
        }
        if (what < 0 || what > 3) {
            throw new IndexOutOfBoundsException("a context has no such number");
        }
        return side == 0 ? coder.contexts.held(context, what) : decoder.contexts.held(context, what);
    }

    public int runs() {
        return runsBegun;
    }

    public int quantised(int error) throws IllegalArgumentException {
        if (error < -70000 || error > 70000) {
            throw new IllegalArgumentException("no error is this number");
        }
        return scale.inSteps(error);
    }

    public int setting(int k) throws IndexOutOfBoundsException {
        switch (k) {
            case 0:
                return scale.max;
            case 1:
                return scale.range;
            case 2:
                return scale.near;
            case 3:
                return scale.t1;
            case 4:
                return scale.t2;
            case 5:
                return scale.t3;
            case 6:
                return scale.resetAt;
            case 7:
                return coder.place;
            case 8:
                return coder.line;
            case 9:
                return decoder.place;
            case 10:
                return decoder.line;
            default:
                throw new IndexOutOfBoundsException("there is no such setting");
        }
    }

    private void tell(Side side, Outlook look, int rebuilt, boolean runGoesOn) {
        if (look.ofRun && !side.running) {
            runsBegun++;
        }
        side.keep(rebuilt, runGoesOn);
        look.rebuilt = rebuilt;
        spare = last;
        last = look;
        anyTold = true;
    }

    private static int within(int n, int least, int most) {
        return Math.max(least, Math.min(most, n));
    }

    private static int divided(int n, int by) {
        return by > 0 ? n / by : 0;
    }

    /** What a sample and an error may be: the numbers that both sides share. */
    private static final class Scale {
        final int max;
        final int near;
        final int step;
        final int range;
        int t1;
        int t2;
        int t3;
        int resetAt;

        Scale(int bits, int near) {
            max = (1 << within(bits, 2, 16)) - 1;
            this.near = within(near, 0, Math.min(255, max / 2));
            step = 2 * this.near + 1;
            range = divided(max + 2 * this.near, step) + 1;
            resetAt = 64;
            setFirstThresholds();
        }

        private void setFirstThresholds() {
            int first;
            int second;
            int third;
            if (max >= 128) {
                int f = (Math.min(max, 4095) + 128) / 256;
                first = f + 2 + 3 * near;
                second = 4 * f + 3 + 5 * near;
                third = 17 * f + 4 + 7 * near;
            } else {
                int f = divided(256, max + 1);
                first = Math.max(2, divided(3, f) + 3 * near);
                second = Math.max(3, divided(7, f) + 5 * near);
                third = Math.max(4, divided(21, f) + 7 * near);
            }
            t1 = thresholdOr(first, near + 1);
            t2 = thresholdOr(second, t1);
            t3 = thresholdOr(third, t2);
        }

        private int thresholdOr(int wanted, int least) {
            return wanted < least || wanted > max ? least : wanted;
        }

        boolean isFlat(int gradient) {
            return Math.abs(gradient) <= near;
        }

        int steepness(int gradient) {
            int size = Math.abs(gradient);
            int level = size >= t3 ? 4 : size >= t2 ? 3 : size >= t1 ? 2 : size > near ? 1 : 0;
            return gradient < 0 ? -level : level;
        }

        int inSteps(int error) {
            return error < 0 ? -divided(near - error, step) : divided(error + near, step);
        }

        int inRange(int e) {
            int lifted = e < 0 ? e + range : e;
            return lifted >= (range + 1) / 2 ? lifted - range : lifted;
        }

        int turnedOver(int value) {
            if (value > max + near) {
                return value - range * step;
            }
            return value < -near ? value + range * step : value;
        }

        int asSample(int value) {
            return within(value, 0, max);
        }
    }

    /** A sample's neighbours, and what they let expect of it. */
    private static final class Outlook {
        int a;
        int b;
        int c;
        int d;
        boolean ofRun;
        int number;
        int sign;
        int expected;
        int rebuilt;

        void expectRun() {
            number = 0;
            sign = 1;
            expected = a;
        }

        void expectEnd(Scale scale) {
            boolean like = scale.isFlat(a - b);
            number = like ? END_LIKE : END_UNLIKE;
            sign = !like && a > b ? -1 : 1;
            expected = like ? a : b;
        }

        void expectByGradients(Scale scale, Contexts contexts) {
            int signed = 81 * scale.steepness(d - b) + 9 * scale.steepness(b - c) + scale.steepness(c - a);
            sign = signed < 0 ? -1 : 1;
            number = sign * signed;
            expected = scale.asSample(median() + sign * contexts.correction(number));
        }

        private int median() {
            if (c >= Math.max(a, b)) {
                return Math.min(a, b);
            }
            if (c <= Math.min(a, b)) {
                return Math.max(a, b);
            }
            return a + b - c;
        }

        int moved(int e, Scale scale) {
            return expected + sign * e * scale.step;
        }
    }

    /** The coder or the decoder: its place in the picture, the samples it rebuilt, its contexts. */
    private static final class Side {
        // An object is used for 512 calls: of a longer row no more samples can be told, and what is above them is 0.
        private static final int MOST_HELD = 512;

        final Contexts contexts;
        final Scale scale;
        final int width;
        int place;
        int line;
        boolean running;
        // One row is enough: before place it is the row that is being told, from place on the one above.
        private final int[] row;
        private int corner;
        private int aboveFirst;

        Side(int width, Scale scale) {
            this.width = width;
            this.scale = scale;
            contexts = new Contexts(scale);
            row = new int[Math.max(1, Math.min(width, MOST_HELD))];
            place = 0;
            line = 0;
            running = false;
            corner = 0;
            aboveFirst = 0;
        }

        boolean awaits(int x) {
            return place < width && x == place;
        }

        void lookAhead(Outlook look) {
            look.b = rowAt(place);
            look.a = place > 0 ? rowAt(place - 1) : look.b;
            look.c = corner;
            look.d = place + 1 < width ? rowAt(place + 1) : look.b;
            look.ofRun = running || isFlatAround(look);
            if (look.ofRun) {
                look.expectRun();
            } else {
                look.expectByGradients(scale, contexts);
            }
        }

        private boolean isFlatAround(Outlook look) {
            return scale.isFlat(look.d - look.b) && scale.isFlat(look.b - look.c) && scale.isFlat(look.c - look.a);
        }

        void keep(int rebuilt, boolean runGoesOn) {
            corner = rowAt(place);
            if (place == 0) {
                aboveFirst = corner;
            }
            if (place >= 0 && place < row.length) {
                row[place] = rebuilt;
            }
            place++;
            running = runGoesOn;
        }

        boolean goToNextRow() {
            if (place < width) {
                return false;
            }
            place = 0;
            line++;
            running = false;
            corner = aboveFirst;
            return true;
        }

        private int rowAt(int x) {
            return x >= 0 && x < row.length ? row[x] : 0;
        }
    }

    /** What one side has learnt in each of its contexts. */
    private static final class Contexts {
        private final Scale scale;
        private final int[] sizes;
        // B of a context of gradients, M of one that ends runs.
        private final int[] leanings;
        private final int[] corrections;
        private final int[] counts;

        Contexts(Scale scale) {
            this.scale = scale;
            sizes = new int[END_LIKE + 1];
            leanings = new int[END_LIKE + 1];
            corrections = new int[END_LIKE + 1];
            counts = new int[END_LIKE + 1];
            Arrays.fill(sizes, Math.max(2, (scale.range + 32) / 64));
            Arrays.fill(counts, 1);
        }

        static boolean has(int q) {
            return q >= 1 && q <= END_LIKE;
        }

        int held(int q, int what) {
            if (!has(q)) {
                return 0;
            }
            switch (what) {
                case 0:
                    return sizes[q];
                case 1:
                    return leanings[q];
                case 2:
                    return corrections[q];
                default:
                    return counts[q];
            }
        }

        int correction(int q) {
            return has(q) ? corrections[q] : 0;
        }

        int fold(int q, int e) {
            if (endsRun(q)) {
                return 2 * Math.abs(e) - turn(q, e) - likeness(q);
            }
            if (leansBelow(q)) {
                return e < 0 ? -2 * (e + 1) : 2 * e + 1;
            }
            return e < 0 ? -2 * e - 1 : 2 * e;
        }

        int unfold(int q, int folded) {
            if (endsRun(q)) {
                return unfoldEnd(q, folded);
            }
            boolean odd = folded % 2 != 0;
            int half = folded / 2;
            return odd == leansBelow(q) ? half : -half - 1;
        }

        private int unfoldEnd(int q, int folded) {
            int twice = folded + likeness(q);
            boolean turned = twice % 2 != 0;
            int size = (twice + 1) / 2;
            return turned == turnsAbove(q) ? size : -size;
        }

        void learn(int q, int e, int folded) {
            if (!has(q)) {
                return;
            }
            if (endsRun(q)) {
                learnEnd(q, e, folded);
                return;
            }
            leanings[q] += e * scale.step;
            sizes[q] += Math.abs(e);
            if (counts[q] == scale.resetAt) {
                sizes[q] /= 2;
                counts[q] /= 2;
                leanings[q] = leanings[q] < 0 ? -((1 - leanings[q]) / 2) : leanings[q] / 2;
            }
            counts[q]++;
            correct(q);
        }

        private void correct(int q) {
            if (!has(q)) {
                return;
            }
            int n = counts[q];
            if (leanings[q] <= -n) {
                leanings[q] = Math.max(leanings[q] + n, 1 - n);
                corrections[q] = Math.max(corrections[q] - 1, -128);
            } else if (leanings[q] > 0) {
                leanings[q] = Math.min(leanings[q] - n, 0);
                corrections[q] = Math.min(corrections[q] + 1, 127);
            }
        }

        private void learnEnd(int q, int e, int folded) {
            if (!has(q)) {
                return;
            }
            if (e < 0) {
                leanings[q]++;
            }
            sizes[q] += (folded + 1 - likeness(q)) / 2;
            if (counts[q] == scale.resetAt) {
                sizes[q] /= 2;
                counts[q] /= 2;
                leanings[q] /= 2;
            }
            counts[q]++;
        }

        private static boolean endsRun(int q) {
            return q > LAST_OF_GRADIENTS;
        }

        private static int likeness(int q) {
            return q == END_LIKE ? 1 : 0;
        }

        private int turn(int q, int e) {
            boolean turns = turnsAbove(q) ? e > 0 : e < 0;
            return turns ? 1 : 0;
        }

        // Of the errors of one size, the likelier sign is to fold to the lesser number.
        private boolean turnsAbove(int q) {
            return has(q) && 2 * leanings[q] < counts[q] && exponentIsZero(q);
        }

        private boolean leansBelow(int q) {
            return has(q) && scale.near == 0 && 2 * leanings[q] <= -counts[q] && exponentIsZero(q);
        }

        // Nothing that is answered depends on K but by whether it is 0, which is so when N itself is not below A.
        private boolean exponentIsZero(int q) {
            if (!has(q)) {
                return true;
            }
            int n = counts[q];
            int size = sizes[q] + (q == END_LIKE ? n / 2 : 0);
            return n >= size;
        }
    }
}
