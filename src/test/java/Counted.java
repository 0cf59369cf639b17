/** A new object of the class. A test that used it beyond the 512 calls of the document would end here. */
final class Counted implements Face {
    static final int MOST_CALLS = 512;

    private final MetreFractions subject = new MetreFractions();
    private int calls = 0;

    int calls() {
        return calls;
    }

    int callsLeft() {
        return MOST_CALLS - calls;
    }

    private MetreFractions asked() {
        calls++;
        if (calls > MOST_CALLS) {
            throw new AssertionError("a test uses an object for more than 512 calls");
        }
        return subject;
    }

    @Override
    public int value(long above, long below, int unit) {
        return asked().value(above, below, unit);
    }

    @Override
    public int add(int a, int b, boolean less) {
        return asked().add(a, b, less);
    }

    @Override
    public int times(int a, int b) {
        return asked().times(a, b);
    }

    @Override
    public int over(int a, int b) {
        return asked().over(a, b);
    }

    @Override
    public int order(int a, int b) {
        return asked().order(a, b);
    }

    @Override
    public int round(int a, int rule, int steps) {
        return asked().round(a, rule, steps);
    }

    @Override
    public int prism(int a, int b, int c, int h) {
        return asked().prism(a, b, c, h);
    }

    @Override
    public int told(int a, int what) {
        return asked().told(a, what);
    }

    @Override
    public int digit(int a, int part, int i) {
        return asked().digit(a, part, i);
    }

    @Override
    public int clear() {
        return asked().clear();
    }

    @Override
    public int row() {
        return asked().row();
    }

    @Override
    public int corner(int row, int place, int height) {
        return asked().corner(row, place, height);
    }

    @Override
    public int at(int row, int place) {
        return asked().at(row, place);
    }

    @Override
    public int area(int row) {
        return asked().area(row);
    }

    @Override
    public int weight(int w) {
        return asked().weight(w);
    }

    @Override
    public int noWeights() {
        return asked().noWeights();
    }

    @Override
    public long share(long whole, int k) {
        return asked().share(whole, k);
    }
}
