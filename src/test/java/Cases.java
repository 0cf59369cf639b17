/**
 * Boundary cases: a new object is brought into a state, one call at a boundary is asked, and then
 * all is looked at that the call may have changed.
 */
final class Cases {
    static final String NO_SUCH = "throws.IndexOutOfBoundsException";
    static final String BY_NOTHING = "throws.ArithmeticException";
    static final String OUT_OF_BOUNDS = "throws.IllegalArgumentException";

    private static final int MOST_READ = 30;
    private static final int LAST_VALUES = 4;
    private static final int TRIED_CORNERS = 4;

    /** Brings a new object into a state, and answers the numbers of the values that matter there. */
    interface State {
        int[] make(Pair x);
    }

    interface Call {
        long ask(Face x, int[] v);
    }

    private final Check check = new Check();
    private String sentence = "";

    /** The sentence of the document to which the next cases belong. */
    void sentence(String text) {
        sentence = text;
    }

    void end(String test) {
        check.end(test);
    }

    /** All calls of a run answer as the oracle does. */
    void run(String what, State run) {
        run.make(new Pair(sentence + ": " + what, check));
    }

    /** The call answers so and changes nothing: the oracle, to which all is then held, never hears of it. */
    void refused(String what, State state, Call call, String want) {
        String name = sentence + ": " + what;
        Pair x = new Pair(name, check);
        int[] v = state.make(x);
        check.same(name, Check.answer(() -> call.ask(x.subject, v)), want);
        look(x, v);
    }

    void refused(String what, State state, Call call, long want) {
        refused(what, state, call, Long.toString(want));
    }

    /** The call answers so, and changes what it changes in the oracle. */
    void taken(String what, State state, Call call, long want) {
        asked(what, state, call, want, "");
    }

    /** The call makes a value that reads so. */
    void made(String what, State state, Call call, String want) {
        asked(what, state, call, -1, want);
    }

    private void asked(String what, State state, Call call, long want, String text) {
        String name = sentence + ": " + what;
        Pair x = new Pair(name, check);
        int[] v = state.make(x);
        String byOracle = Check.answer(() -> call.ask(x.oracle, v));
        long due = text.isEmpty() ? want : x.oracle.valueCount() - 1;
        String answer = Check.answer(() -> call.ask(x.subject, v));
        check.same(name, answer, Long.toString(due));
        check.same(name + ", by the oracle", byOracle, Long.toString(due));
        if (!text.isEmpty() && answer.equals(Long.toString(due))) {
            check.same(name, read(x.subject, (int) due), text);
        }
        look(x, v);
    }

    /** A value as it can be read: -3/2 [1], or -(900)/1 [0] if there are many digits. */
    static String read(Face x, int a) {
        StringBuilder text = new StringBuilder(x.told(a, 0) < 0 ? "-" : "");
        readPart(x, a, 0, text);
        text.append('/');
        readPart(x, a, 1, text);
        return text.append(" [").append(x.told(a, 3)).append(']').toString();
    }

    private static void readPart(Face x, int a, int part, StringBuilder text) {
        int digits = x.told(a, part + 1);
        if (digits > MOST_READ) {
            text.append('(').append(digits).append(')');
            return;
        }
        for (int i = digits - 1; i >= 0; i--) {
            text.append(x.digit(a, part, i));
        }
    }

    /** Holds all that can be seen of the object to the oracle; the object is used up by that. */
    private void look(Pair x, int[] v) {
        int values = x.oracle.valueCount();
        for (int a : v) {
            lookAtValue(x, a);
        }
        for (int a = Math.max(0, values - LAST_VALUES); a < values; a++) {
            lookAtValue(x, a);
        }
        x.told(values, 0);
        for (int k = 0; k <= x.oracle.weightCount(); k++) {
            x.share(1000000007, k);
        }
        for (int row = 0; row <= x.oracle.rowCount(); row++) {
            lookAtRow(x, row, v);
        }
        x.row();
        x.weight(7);
        x.noWeights();
        x.clear();
        lookAtNew(x);
    }

    private static void lookAtValue(Pair x, int a) {
        x.told(a, 0);
        x.told(a, 3);
        for (int part = 0; part < 2; part++) {
            int digits = x.told(a, part + 1);
            x.digit(a, part, 0);
            x.digit(a, part, digits - 1);
        }
    }

    private static void lookAtRow(Pair x, int row, int[] v) {
        x.area(row);
        int tried = Math.min(v.length, TRIED_CORNERS);
        for (int i = 0; i < tried; i++) {
            x.at(row, v[i]);
            for (int j = 0; j < tried; j++) {
                x.corner(row, v[i], v[j]);
            }
        }
        x.area(row);
    }

    private static void lookAtNew(Pair x) {
        x.told(0, 0);
        x.area(0);
        x.share(1, 0);
        x.value(1, 2, 3);
        x.row();
        x.corner(0, 0, 0);
        x.weight(1);
    }
}
