import java.math.BigInteger;
import java.util.ArrayList;
import java.util.List;

/** The document once more, over BigInteger and as plain as can be: random runs are held against it. */
final class Oracle implements Face {
    private static final int UNLIKE = -2;
    private static final int FULL = -3;
    private static final int LONG = -4;
    private static final int OUTSIDE = -5;

    /** A fraction in lowest terms. */
    record Ratio(BigInteger above, BigInteger below) {
        static Ratio of(BigInteger above, BigInteger below) {
            BigInteger cut = above.gcd(below);
            if (below.signum() < 0) {
                cut = cut.negate();
            }
            return new Ratio(above.divide(cut), below.divide(cut));
        }

        static Ratio of(long above, long below) {
            return of(BigInteger.valueOf(above), BigInteger.valueOf(below));
        }

        Ratio plus(Ratio o) {
            return of(above.multiply(o.below).add(o.above.multiply(below)), below.multiply(o.below));
        }

        Ratio minus(Ratio o) {
            return plus(new Ratio(o.above.negate(), o.below));
        }

        Ratio by(Ratio o) {
            return of(above.multiply(o.above), below.multiply(o.below));
        }

        Ratio over(Ratio o) {
            return of(above.multiply(o.below), below.multiply(o.above));
        }

        int against(Ratio o) {
            return above.multiply(o.below).compareTo(o.above.multiply(below));
        }

        BigInteger floor() {
            BigInteger[] parts = above.divideAndRemainder(below);
            return parts[1].signum() < 0 ? parts[0].subtract(BigInteger.ONE) : parts[0];
        }

        boolean isLong() {
            return digits(above) > 900 || digits(below) > 900;
        }
    }

    record Value(Ratio amount, int unit) { }

    record Corner(Value place, Value height) { }

    private final List<Value> values = new ArrayList<>();
    private final List<List<Corner>> rows = new ArrayList<>();
    private final List<Integer> weights = new ArrayList<>();

    static int digits(BigInteger number) {
        return number.abs().toString().length();
    }

    int valueCount() {
        return values.size();
    }

    int rowCount() {
        return rows.size();
    }

    int weightCount() {
        return weights.size();
    }

    @Override
    public int value(long above, long below, int unit) {
        if (below == 0) {
            throw new ArithmeticException();
        }
        if (Math.abs((long) unit) > 6) {
            throw new IllegalArgumentException();
        }
        return make(Ratio.of(above, below), unit);
    }

    @Override
    public int add(int a, int b, boolean less) {
        Value x = get(a);
        Value y = get(b);
        if (x.unit != y.unit) {
            return UNLIKE;
        }
        return make(less ? x.amount.minus(y.amount) : x.amount.plus(y.amount), x.unit);
    }

    @Override
    public int times(int a, int b) {
        Value x = get(a);
        Value y = get(b);
        return make(x.amount.by(y.amount), x.unit + y.unit);
    }

    @Override
    public int over(int a, int b) {
        Value x = get(a);
        Value y = get(b);
        if (y.amount.above.signum() == 0) {
            throw new ArithmeticException();
        }
        return make(x.amount.over(y.amount), x.unit - y.unit);
    }

    @Override
    public int order(int a, int b) {
        Value x = get(a);
        Value y = get(b);
        return x.unit != y.unit ? UNLIKE : x.amount.against(y.amount);
    }

    @Override
    public int round(int a, int rule, int steps) {
        Value x = get(a);
        if (rule < 0 || rule > 3 || steps < 1 || steps > 1000000000) {
            throw new IllegalArgumentException();
        }
        Ratio parts = x.amount.by(Ratio.of(steps, 1));
        BigInteger down = parts.floor();
        Ratio cut = parts.minus(new Ratio(down, BigInteger.ONE));
        int half = cut.against(Ratio.of(1, 2));
        boolean up = switch (rule) {
            case 0 -> false;
            case 1 -> cut.above.signum() > 0;
            case 2 -> half >= 0;
            default -> half > 0 || half == 0 && down.testBit(0);
        };
        BigInteger whole = up ? down.add(BigInteger.ONE) : down;
        return make(Ratio.of(whole, BigInteger.valueOf(steps)), x.unit);
    }

    @Override
    public int prism(int a, int b, int c, int h) {
        Value x = get(a);
        Value y = get(b);
        Value z = get(c);
        Value high = get(h);
        if (x.unit != y.unit || y.unit != z.unit) {
            return UNLIKE;
        }
        Ratio sum = x.amount.plus(Ratio.of(4, 1).by(y.amount)).plus(z.amount);
        return make(sum.by(high.amount).over(Ratio.of(6, 1)), x.unit + high.unit);
    }

    @Override
    public int told(int a, int what) {
        Value x = get(a);
        return switch (what) {
            case 0 -> x.amount.above.signum();
            case 1 -> digits(x.amount.above);
            case 2 -> digits(x.amount.below);
            case 3 -> x.unit;
            default -> throw new IllegalArgumentException();
        };
    }

    @Override
    public int digit(int a, int part, int i) {
        Value x = get(a);
        if (i < 0) {
            throw new IndexOutOfBoundsException();
        }
        if (part < 0 || part > 1) {
            throw new IllegalArgumentException();
        }
        String text = (part == 0 ? x.amount.above : x.amount.below).abs().toString();
        if (i >= text.length()) {
            throw new IndexOutOfBoundsException();
        }
        return text.charAt(text.length() - 1 - i) - '0';
    }

    @Override
    public int clear() {
        int before = values.size();
        values.clear();
        rows.clear();
        return before;
    }

    @Override
    public int row() {
        if (rows.size() == 8) {
            return FULL;
        }
        rows.add(new ArrayList<>());
        return rows.size() - 1;
    }

    @Override
    public int corner(int row, int place, int height) {
        List<Corner> line = getRow(row);
        Corner made = new Corner(get(place), get(height));
        if (!line.isEmpty()) {
            Corner last = line.get(line.size() - 1);
            if (made.place.unit != last.place.unit || made.height.unit != last.height.unit) {
                return UNLIKE;
            }
            if (line.size() == 16) {
                return FULL;
            }
            if (made.place.amount.against(last.place.amount) <= 0) {
                return OUTSIDE;
            }
        }
        line.add(made);
        return line.size();
    }

    @Override
    public int at(int row, int place) {
        List<Corner> line = getRow(row);
        Value where = get(place);
        if (line.isEmpty()) {
            return OUTSIDE;
        }
        if (where.unit != line.get(0).place.unit) {
            return UNLIKE;
        }
        int unit = line.get(0).height.unit;
        Ratio p = where.amount;
        for (Corner corner : line) {
            if (p.against(corner.place.amount) == 0) {
                return make(corner.height.amount, unit);
            }
        }
        for (int i = 1; i < line.size(); i++) {
            Ratio p0 = line.get(i - 1).place.amount;
            Ratio p1 = line.get(i).place.amount;
            if (p.against(p0) > 0 && p.against(p1) < 0) {
                Ratio h0 = line.get(i - 1).height.amount;
                Ratio h1 = line.get(i).height.amount;
                // Weighed means: another formula than the class has.
                return make(h0.by(p1.minus(p)).plus(h1.by(p.minus(p0))).over(p1.minus(p0)), unit);
            }
        }
        return OUTSIDE;
    }

    @Override
    public int area(int row) {
        List<Corner> line = getRow(row);
        if (line.size() < 2) {
            return OUTSIDE;
        }
        int unit = line.get(0).place.unit + line.get(0).height.unit;
        Ratio sum = Ratio.of(0, 1);
        boolean onTheWay = false;
        for (int i = 1; i < line.size(); i++) {
            Corner c0 = line.get(i - 1);
            Corner c1 = line.get(i);
            Ratio wide = c1.place.amount.minus(c0.place.amount);
            sum = sum.plus(wide.by(c0.height.amount.plus(c1.height.amount)).over(Ratio.of(2, 1)));
            onTheWay |= sum.isLong();
        }
        int refused = refused(unit);
        if (refused != 0) {
            return refused;
        }
        return onTheWay ? LONG : make(sum, unit);
    }

    @Override
    public int weight(int w) {
        if (w < 1 || w > 1000000000) {
            throw new IllegalArgumentException();
        }
        if (weights.size() == 12) {
            return FULL;
        }
        weights.add(w);
        return weights.size();
    }

    @Override
    public int noWeights() {
        int before = weights.size();
        weights.clear();
        return before;
    }

    @Override
    public long share(long whole, int k) {
        if (k < 0 || k >= weights.size()) {
            throw new IndexOutOfBoundsException();
        }
        if (whole < 0 || whole > 1000000000000L) {
            throw new IllegalArgumentException();
        }
        BigInteger total = BigInteger.ZERO;
        for (int w : weights) {
            total = total.add(BigInteger.valueOf(w));
        }
        int n = weights.size();
        long[] shares = new long[n];
        BigInteger[] cut = new BigInteger[n];
        long left = whole;
        for (int i = 0; i < n; i++) {
            BigInteger[] parts = BigInteger.valueOf(whole).multiply(BigInteger.valueOf(weights.get(i)))
                .divideAndRemainder(total);
            shares[i] = parts[0].longValueExact();
            cut[i] = parts[1];
            left -= shares[i];
        }
        for (; left > 0; left--) {
            int most = 0;
            for (int i = 1; i < n; i++) {
                if (cut[i].compareTo(cut[most]) > 0) {
                    most = i;
                }
            }
            shares[most]++;
            cut[most] = BigInteger.ONE.negate();
        }
        return shares[k];
    }

    private Value get(int number) {
        if (number < 0 || number >= values.size()) {
            throw new IndexOutOfBoundsException();
        }
        return values.get(number);
    }

    private List<Corner> getRow(int number) {
        if (number < 0 || number >= rows.size()) {
            throw new IndexOutOfBoundsException();
        }
        return rows.get(number);
    }

    private int refused(int unit) {
        if (unit < -6 || unit > 6) {
            return UNLIKE;
        }
        return values.size() == 200 ? FULL : 0;
    }

    private int make(Ratio amount, int unit) {
        int refused = refused(unit);
        if (refused != 0) {
            return refused;
        }
        if (amount.isLong()) {
            return LONG;
        }
        values.add(new Value(amount, unit));
        return values.size() - 1;
    }
}
