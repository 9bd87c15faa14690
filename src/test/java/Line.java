/** A LinePredict that counts its calls: the document promises nothing after the 512th, so no test may ask for it. */
final class Line {
    static final int MOST_CALLS = 512;

    private final LinePredict real;
    private int calls = 0;

    Line(int width, int bits, int near) {
        real = new LinePredict(width, bits, near);
    }

    private LinePredict counted() {
        calls++;
        if (calls > MOST_CALLS) {
            throw new AssertionError("a test makes more calls of one object than the document promises answers for");
        }
        return real;
    }

    int callsLeft() {
        return MOST_CALLS - calls;
    }

    boolean thresholds(int a, int b, int c) {
        return counted().thresholds(a, b, c);
    }

    boolean reset(int at) {
        return counted().reset(at);
    }

    int sample(int x, int v) {
        return counted().sample(x, v);
    }

    int back(int x, int error) {
        return counted().back(x, error);
    }

    boolean endRow() {
        return counted().endRow();
    }

    int context() {
        return counted().context();
    }

    int predicted() {
        return counted().predicted();
    }

    int neighbour(int k) {
        return counted().neighbour(k);
    }

    int state(int side, int context, int what) {
        return counted().state(side, context, what);
    }

    int runs() {
        return counted().runs();
    }

    int quantised(int error) {
        return counted().quantised(error);
    }

    int setting(int k) {
        return counted().setting(k);
    }
}
