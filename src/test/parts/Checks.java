import java.util.function.LongSupplier;

/** Compares answers with what is due, and counts those that are not. */
final class Checks {
    static final Class<?> INDEX = IndexOutOfBoundsException.class;
    static final Class<?> STATE = IllegalStateException.class;
    static final Class<?> ARGUMENT = IllegalArgumentException.class;

    private static String test = "";
    private static int wrong = 0;

    private Checks() {
    }

    static void begin(String name) {
        test = name;
    }

    static int wrong() {
        return wrong;
    }

    static void tell(String what) {
        wrong++;
        System.out.println(test + ": " + what);
    }

    /** What a call answers, as a text: a number, or the name of what it throws. */
    static String answer(LongSupplier call) {
        try {
            return Long.toString(call.getAsLong());
        } catch (RuntimeException e) {
            return e.getClass().getSimpleName();
        }
    }

    static void due(String call, long got, long want) {
        if (got != want) {
            tell(call + " answered " + got + ", due is " + want);
        }
    }

    static void refused(Class<?> want, String call, LongSupplier made) {
        same(call, answer(made), want.getSimpleName());
    }

    static void same(String call, String got, String want) {
        if (!got.equals(want)) {
            tell(call + " answered " + got + ", due is " + want);
        }
    }

    /** What there is not, when there are n: the first one on each side, and the farthest ones. */
    static int[] beside(int n) {
        return new int[] {-1, n, Integer.MIN_VALUE, Integer.MAX_VALUE};
    }
}
