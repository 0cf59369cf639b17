import java.util.function.LongSupplier;

/** A new object and a new oracle, that get the same calls: up to the 512 of which the document speaks. */
final class Pair {
    static final int MOST_CALLS = 512;
    static final long NONE = Long.MIN_VALUE;

    private final String run;
    private final Check check;
    private final MetreFractions subject = new MetreFractions();
    final Oracle oracle = new Oracle();
    private int calls = 0;

    Pair(String run, Check check) {
        this.run = run;
        this.check = check;
    }

    int callsLeft() {
        return MOST_CALLS - calls;
    }

    /** Asks both, and answers what is due, or NONE if an exception is. */
    private long both(String call, LongSupplier got, LongSupplier want) {
        if (calls == MOST_CALLS) {
            throw new IllegalStateException(run + " has too many calls");
        }
        calls++;
        String due = Check.answer(want);
        check.same(run + ", call " + calls + ", " + call, Check.answer(got), due);
        return due.startsWith("throws.") ? NONE : Long.parseLong(due);
    }

    int value(long above, long below, int unit) {
        return (int) both("value(" + above + ", " + below + ", " + unit + ")",
            () -> subject.value(above, below, unit), () -> oracle.value(above, below, unit));
    }

    int add(int a, int b, boolean less) {
        return (int) both("add(" + a + ", " + b + ", " + less + ")",
            () -> subject.add(a, b, less), () -> oracle.add(a, b, less));
    }

    int times(int a, int b) {
        return (int) both("times(" + a + ", " + b + ")", () -> subject.times(a, b), () -> oracle.times(a, b));
    }

    int over(int a, int b) {
        return (int) both("over(" + a + ", " + b + ")", () -> subject.over(a, b), () -> oracle.over(a, b));
    }

    int order(int a, int b) {
        return (int) both("order(" + a + ", " + b + ")", () -> subject.order(a, b), () -> oracle.order(a, b));
    }

    int round(int a, int rule, int steps) {
        return (int) both("round(" + a + ", " + rule + ", " + steps + ")",
            () -> subject.round(a, rule, steps), () -> oracle.round(a, rule, steps));
    }

    int prism(int a, int b, int c, int h) {
        return (int) both("prism(" + a + ", " + b + ", " + c + ", " + h + ")",
            () -> subject.prism(a, b, c, h), () -> oracle.prism(a, b, c, h));
    }

    int told(int a, int what) {
        return (int) both("told(" + a + ", " + what + ")", () -> subject.told(a, what), () -> oracle.told(a, what));
    }

    int digit(int a, int part, int i) {
        return (int) both("digit(" + a + ", " + part + ", " + i + ")",
            () -> subject.digit(a, part, i), () -> oracle.digit(a, part, i));
    }

    int clear() {
        return (int) both("clear()", subject::clear, oracle::clear);
    }

    int row() {
        return (int) both("row()", subject::row, oracle::row);
    }

    int corner(int row, int place, int height) {
        return (int) both("corner(" + row + ", " + place + ", " + height + ")",
            () -> subject.corner(row, place, height), () -> oracle.corner(row, place, height));
    }

    int at(int row, int place) {
        return (int) both("at(" + row + ", " + place + ")", () -> subject.at(row, place), () -> oracle.at(row, place));
    }

    int area(int row) {
        return (int) both("area(" + row + ")", () -> subject.area(row), () -> oracle.area(row));
    }

    int weight(int w) {
        return (int) both("weight(" + w + ")", () -> subject.weight(w), () -> oracle.weight(w));
    }

    int noWeights() {
        return (int) both("noWeights()", subject::noWeights, oracle::noWeights);
    }

    long share(long whole, int k) {
        return both("share(" + whole + ", " + k + ")", () -> subject.share(whole, k), () -> oracle.share(whole, k));
    }
}
