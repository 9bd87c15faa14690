/** Coder and decoder of one object side by side: what the one tells of a sample is given to the other at once. */
final class Pair {
    final Line line;
    private final Check check;
    private final int width;
    private int x = 0;

    Pair(Check check, int width, int bits, int near) {
        this.check = check;
        this.width = width;
        line = new Line(width, bits, near);
    }

    /** The next sample, whatever it is told as; a row that is whole is ended. */
    void tell(int... samples) {
        for (int v : samples) {
            line.back(x, line.sample(x, v));
            goOn();
        }
    }

    /** The next sample, with what it is to be told as and rebuilt to. */
    void tellAs(int v, int folded, int rebuilt) {
        check.same("sample(" + x + ", " + v + ")", line.sample(x, v), folded);
        check.same("the coder's rebuilt one of " + v, line.neighbour(4), rebuilt);
        check.same("back(" + x + ", " + folded + ")", Check.answer(() -> line.back(x, folded)), rebuilt);
        check.same("the decoder's rebuilt one of " + v, line.neighbour(4), rebuilt);
        goOn();
    }

    /** The next sample, with what context(), predicted(), neighbour(0) and so on are to answer of it on each side. */
    void tellSeen(int v, int... due) {
        int folded = line.sample(x, v);
        check.seen("of the coder's " + v + " at " + x, line, due);
        int rebuilt = line.back(x, folded);
        check.seen("of the decoder's " + v + " at " + x, line, due);
        check.same("back(" + x + ", " + folded + ")", rebuilt, line.neighbour(4));
        goOn();
    }

    /** What both sides are to have learnt in a context: A, B or M, C and N. */
    void learnt(int q, int... due) {
        check.state(line, 0, q, due);
        check.state(line, 1, q, due);
    }

    private void goOn() {
        x++;
        if (x == width) {
            x = 0;
            check.same("endRow() of a whole row", line.endRow(), true);
        }
    }
}
