import java.util.function.Supplier;

/** Counts what is not as due, and ends the program with 1 if anything was not. */
final class Check {
    static final Class<?> STATE = IllegalStateException.class;
    static final Class<?> ARGUMENT = IllegalArgumentException.class;
    static final Class<?> INDEX = IndexOutOfBoundsException.class;

    private int wrong = 0;
    private String sentence = "";

    /** The words of the document that the checks from here on are for. */
    void sentence(String words) {
        sentence = words;
    }

    void same(String what, Object got, Object due) {
        if (!got.equals(due)) {
            wrong++;
            System.out.println(sentence + ": " + what + ": answered " + got + ", due is " + due);
        }
    }

    void refused(String what, Supplier<Object> call, Class<?> due) {
        same(what, answer(call), due.getSimpleName());
    }

    /** What a call answers, or the name of what it throws. */
    static Object answer(Supplier<Object> call) {
        try {
            return call.get();
        } catch (RuntimeException thrown) {
            return thrown.getClass().getSimpleName();
        }
    }

    /** setting(from) and those behind it. */
    void settings(Line line, int from, int... due) {
        for (int i = 0; i < due.length; i++) {
            same("setting(" + (from + i) + ")", line.setting(from + i), due[i]);
        }
    }

    /** A, B or M, C and N of a context of one side. */
    void state(Line line, int side, int q, int... due) {
        for (int what = 0; what < due.length; what++) {
            same("state(" + side + ", " + q + ", " + what + ")", line.state(side, q, what), due[what]);
        }
    }

    /** context(), predicted(), and neighbour(0) to neighbour(4), as many of these as are due. */
    void seen(String when, Line line, int... due) {
        for (int i = 0; i < due.length; i++) {
            int got = i == 0 ? line.context() : i == 1 ? line.predicted() : line.neighbour(i - 2);
            String what = i == 0 ? "context()" : i == 1 ? "predicted()" : "neighbour(" + (i - 2) + ")";
            same(what + " " + when, got, due[i]);
        }
    }

    boolean anyWrong() {
        return wrong > 0;
    }

    void finish() {
        if (wrong > 0) {
            System.out.println(wrong + " answers are not as due");
            System.exit(1);
        }
    }
}
