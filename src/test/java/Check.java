import java.util.function.LongSupplier;
import java.util.function.Supplier;

/** Counts and prints the answers of a test that are not as due. */
final class Check {
    private static final int MOST_PRINTED = 40;

    private int asked = 0;
    private int wrong = 0;

    /** What a call answers, as a text: its number, or throws. and the exception's name. */
    static String answer(LongSupplier call) {
        try {
            return Long.toString(call.getAsLong());
        } catch (RuntimeException e) {
            return "throws." + e.getClass().getSimpleName();
        }
    }

    void due(String what, LongSupplier call, long want) {
        same(what, answer(call), Long.toString(want));
    }

    void thrown(String what, LongSupplier call, Class<? extends RuntimeException> want) {
        same(what, answer(call), "throws." + want.getSimpleName());
    }

    void same(String what, String got, String want) {
        same(() -> what, got, want);
    }

    /** What was asked is put in words only if the answer is wrong. */
    void same(Supplier<String> what, String got, String want) {
        asked++;
        if (got.equals(want)) {
            return;
        }
        wrong++;
        if (wrong <= MOST_PRINTED) {
            System.out.println(what.get() + " answered " + got + ", due is " + want);
        }
    }

    void end(String test) {
        System.out.println(test + ": " + asked + " answers, " + wrong + " not as due");
        if (wrong != 0 || asked == 0) {
            System.exit(1);
        }
    }
}
