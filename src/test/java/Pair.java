import java.util.Arrays;
import java.util.function.ToLongFunction;

/** A new object and a new oracle, that get the same calls. */
final class Pair implements Face {
    private final String run;
    private final Check check;
    final Counted subject = new Counted();
    final Oracle oracle = new Oracle();

    Pair(String run, Check check) {
        this.run = run;
        this.check = check;
    }

    int callsLeft() {
        return subject.callsLeft();
    }

    /** Asks both, and answers what is due, or 0 if an exception is. */
    private long both(ToLongFunction<Face> call, String name, long... arguments) {
        String got = Check.answer(() -> call.applyAsLong(subject));
        String due = Check.answer(() -> call.applyAsLong(oracle));
        check.same(() -> run + ", call " + subject.calls() + ", " + name + Arrays.toString(arguments), got, due);
        return due.startsWith("throws.") ? 0 : Long.parseLong(due);
    }

    @Override
    public int value(long above, long below, int unit) {
        return (int) both(x -> x.value(above, below, unit), "value", above, below, unit);
    }

    @Override
    public int add(int a, int b, boolean less) {
        return (int) both(x -> x.add(a, b, less), less ? "add, less, " : "add", a, b);
    }

    @Override
    public int times(int a, int b) {
        return (int) both(x -> x.times(a, b), "times", a, b);
    }

    @Override
    public int over(int a, int b) {
        return (int) both(x -> x.over(a, b), "over", a, b);
    }

    @Override
    public int order(int a, int b) {
        return (int) both(x -> x.order(a, b), "order", a, b);
    }

    @Override
    public int round(int a, int rule, int steps) {
        return (int) both(x -> x.round(a, rule, steps), "round", a, rule, steps);
    }

    @Override
    public int prism(int a, int b, int c, int h) {
        return (int) both(x -> x.prism(a, b, c, h), "prism", a, b, c, h);
    }

    @Override
    public int told(int a, int what) {
        return (int) both(x -> x.told(a, what), "told", a, what);
    }

    @Override
    public int digit(int a, int part, int i) {
        return (int) both(x -> x.digit(a, part, i), "digit", a, part, i);
    }

    @Override
    public int clear() {
        return (int) both(Face::clear, "clear");
    }

    @Override
    public int row() {
        return (int) both(Face::row, "row");
    }

    @Override
    public int corner(int row, int place, int height) {
        return (int) both(x -> x.corner(row, place, height), "corner", row, place, height);
    }

    @Override
    public int at(int row, int place) {
        return (int) both(x -> x.at(row, place), "at", row, place);
    }

    @Override
    public int area(int row) {
        return (int) both(x -> x.area(row), "area", row);
    }

    @Override
    public int weight(int w) {
        return (int) both(x -> x.weight(w), "weight", w);
    }

    @Override
    public int noWeights() {
        return (int) both(Face::noWeights, "noWeights");
    }

    @Override
    public long share(long whole, int k) {
        return both(x -> x.share(whole, k), "share", whole, k);
    }
}
