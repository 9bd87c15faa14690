import java.util.function.Supplier;

/** Counts what is not as due, and ends the program with 1 if anything was not. */
final class Check {
    private int wrong = 0;

    void same(String what, Object got, Object due) {
        if (!got.equals(due)) {
            wrong++;
            System.out.println(what + ": answered " + got + ", due is " + due);
        }
    }

    void fails(String what, Supplier<Object> call, Class<?> due) {
        same(what, answer(call), due.getSimpleName());
    }

    /** What a call answers, or the name of what it throws. */
    static Object answer(Supplier<Object> call) {
        try {
            return call.get();
        } catch (RuntimeException thrown) {
            return thrown.getClass().getSimpleName();
        }
    }

    boolean anyWrong() {
        return wrong > 0;
    }

    void finish() {
        if (wrong > 0) {
            System.out.println(wrong + " answers are not as due");
            System.exit(1);
        }
    }
}
