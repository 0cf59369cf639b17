import java.util.Arrays;

/**
 * Lengths, areas, volumes and plain numbers as exact fractions of up to 900 digits above and below,
 * with rows of corners joined by lines, and whole units shared by weights.
 */
public final class MetreFractions {
    public static final int UNLIKE = -2;
    public static final int FULL = -3;
    public static final int LONG = -4;
    public static final int OUTSIDE = -5;

    private static final int MOST_VALUES = 200;
    private static final int MOST_DIGITS = 900;
    private static final int MOST_UNIT = 6;
    private static final int MOST_ROWS = 8;
    private static final int MOST_CORNERS = 16;
    private static final int MOST_WEIGHTS = 12;
    private static final int MOST_WEIGHT = 1000000000;
    private static final int MOST_STEPS = 1000000000;
    private static final long MOST_WHOLE = 1000000000000L;

    private static final int ROUND_DOWN = 0;
    private static final int ROUND_UP = 1;
    private static final int ROUND_HALF_UP = 2;
    private static final int ROUND_HALF_EVEN = 3;

    // Nine decimal digits a limb: digits are counted and told without a conversion, and the product
    // of two limbs with its carry still fits a long.
    private static final int LIMB_DIGITS = 9;
    private static final long BASE = 1000000000L;
    private static final int[] TENS = {
        1, 10, 100, 1000, 10000, 100000, 1000000, 10000000, 100000000, 1000000000
    };

    // Working numbers begin small and grow when a call needs more, so that a new object costs little.
    private static final int START_LIMBS = 24;

    private final Value[] values = new Value[MOST_VALUES];
    private int valueCount = 0;
    private final Row[] rows = new Row[MOST_ROWS];
    private int rowCount = 0;
    private final Weights weights = new Weights();

    private final Calculator calculator = new Calculator();
    private final Fraction first = new Fraction(START_LIMBS, START_LIMBS);
    private final Fraction second = new Fraction(START_LIMBS, START_LIMBS);
    private final Fraction third = new Fraction(START_LIMBS, START_LIMBS);
    private final Fraction sum = new Fraction(START_LIMBS, START_LIMBS);
    private final Fraction zero = Fraction.ofLowestTerms(0, 1);
    private final Fraction four = Fraction.ofLowestTerms(4, 1);
    private final Fraction half = Fraction.ofLowestTerms(1, 2);
    private final Fraction sixth = Fraction.ofLowestTerms(1, 6);

    public MetreFractions() {
        for (int i = 0; i < MOST_ROWS; i++) {
            rows[i] = new Row();
        }
    }

    public int value(long above, long below, int unit) throws ArithmeticException, IllegalArgumentException {
        if (below == 0) {
            throw new ArithmeticException("a division by 0");
        }
        if (!isUnit(unit)) {
            throw new IllegalArgumentException("no such unit");
        }
        if (isFull()) {
            return FULL;
        }
        calculator.setRatio(first, above, below);
        return keep(first, unit);
    }

    public int add(int a, int b, boolean less) throws IndexOutOfBoundsException {
        Value one = valueOf(a);
        Value other = valueOf(b);
        if (one.unit != other.unit) {
            return UNLIKE;
        }
        if (isFull()) {
            return FULL;
        }
        calculator.setSum(first, one.amount, other.amount, less);
        return keep(first, one.unit);
    }

    public int times(int a, int b) throws IndexOutOfBoundsException {
        Value one = valueOf(a);
        Value other = valueOf(b);
        int unit = one.unit + other.unit;
        if (!isUnit(unit)) {
            return UNLIKE;
        }
        if (isFull()) {
            return FULL;
        }
        calculator.setProduct(first, one.amount, other.amount, false);
        return keep(first, unit);
    }

    public int over(int a, int b) throws IndexOutOfBoundsException, ArithmeticException {
        Value one = valueOf(a);
        Value other = valueOf(b);
        if (other.amount.sign == 0) {
            throw new ArithmeticException("a division by 0");
        }
        int unit = one.unit - other.unit;
        if (!isUnit(unit)) {
            return UNLIKE;
        }
        if (isFull()) {
            return FULL;
        }
        calculator.setProduct(first, one.amount, other.amount, true);
        return keep(first, unit);
    }

    public int order(int a, int b) throws IndexOutOfBoundsException {
        Value one = valueOf(a);
        Value other = valueOf(b);
        if (one.unit != other.unit) {
            return UNLIKE;
        }
        return calculator.compare(one.amount, other.amount);
    }

    public int round(int a, int rule, int steps) throws IndexOutOfBoundsException, IllegalArgumentException {
        Value one = valueOf(a);
        if (rule < ROUND_DOWN || rule > ROUND_HALF_EVEN) {
            throw new IllegalArgumentException("no such rule");
        }
        if (steps < 1 || steps > MOST_STEPS) {
            throw new IllegalArgumentException("steps are not 1 .. 1000000000");
        }
        if (isFull()) {
            return FULL;
        }
        calculator.setRounded(first, one.amount, rule, steps);
        return keep(first, one.unit);
    }

    public int prism(int a, int b, int c, int h) throws IndexOutOfBoundsException {
        Value front = valueOf(a);
        Value middle = valueOf(b);
        Value back = valueOf(c);
        Value height = valueOf(h);
        int unit = front.unit + height.unit;
        if (front.unit != middle.unit || front.unit != back.unit || !isUnit(unit)) {
            return UNLIKE;
        }
        if (isFull()) {
            return FULL;
        }
        calculator.setProduct(first, middle.amount, four, false);
        calculator.setSum(second, front.amount, first, false);
        calculator.setSum(first, second, back.amount, false);
        calculator.setProduct(second, first, height.amount, false);
        calculator.setProduct(first, second, sixth, false);
        return keep(first, unit);
    }

    public int told(int a, int what) throws IndexOutOfBoundsException, IllegalArgumentException {
        Value one = valueOf(a);
        switch (what) {
            case 0:
                return one.amount.sign;
            case 1:
                return one.amount.above.digits();
            case 2:
                return one.amount.below.digits();
            case 3:
                return one.unit;
            default:
                throw new IllegalArgumentException("nothing is told by this number");
        }
    }

    public int digit(int a, int part, int i) throws IndexOutOfBoundsException, IllegalArgumentException {
        Value one = valueOf(a);
        if (i < 0) {
            throw new IndexOutOfBoundsException("no such digit");
        }
        if (part != 0 && part != 1) {
            throw new IllegalArgumentException("no such part");
        }
        Natural number = part == 0 ? one.amount.above : one.amount.below;
        if (i >= number.digits()) {
            throw new IndexOutOfBoundsException("no such digit");
        }
        return number.decimal(i);
    }

    public int clear() {
        int before = valueCount;
        valueCount = 0;
        rowCount = 0;
        return before;
    }

    public int row() {
        if (rowCount >= MOST_ROWS) {
            return FULL;
        }
        rows[rowCount].count = 0;
        rowCount++;
        return rowCount - 1;
    }

    public int corner(int row, int place, int height) throws IndexOutOfBoundsException {
        Row line = rowOf(row);
        Value where = valueOf(place);
        Value high = valueOf(height);
        if (line.count > 0) {
            int last = line.count - 1;
            if (where.unit != line.places[last].unit || high.unit != line.heights[last].unit) {
                return UNLIKE;
            }
            if (line.count >= MOST_CORNERS) {
                return FULL;
            }
            if (calculator.compare(where.amount, line.places[last].amount) <= 0) {
                return OUTSIDE;
            }
        }
        line.put(where, high);
        return line.count;
    }

    public int at(int row, int place) throws IndexOutOfBoundsException {
        Row line = rowOf(row);
        Value where = valueOf(place);
        if (line.count == 0) {
            return OUTSIDE;
        }
        if (where.unit != line.places[0].unit) {
            return UNLIKE;
        }
        int next = cornerNotBefore(line, where.amount);
        if (next < 0) {
            return OUTSIDE;
        }
        if (isFull()) {
            return FULL;
        }
        setHeight(line, next, where.amount);
        return keep(first, line.heights[0].unit);
    }

    public int area(int row) throws IndexOutOfBoundsException {
        Row line = rowOf(row);
        if (line.count < 2) {
            return OUTSIDE;
        }
        int unit = line.places[0].unit + line.heights[0].unit;
        if (!isUnit(unit)) {
            return UNLIKE;
        }
        if (isFull()) {
            return FULL;
        }
        sum.setTo(zero);
        for (int next = 1; next < line.count; next++) {
            addStrip(line, next);
            if (sum.isLong()) {
                return LONG;
            }
        }
        return keep(sum, unit);
    }

    public int weight(int w) throws IllegalArgumentException {
        if (w < 1 || w > MOST_WEIGHT) {
            throw new IllegalArgumentException("a weight is not 1 .. 1000000000");
        }
        if (weights.count >= MOST_WEIGHTS) {
            return FULL;
        }
        weights.put(w);
        return weights.count;
    }

    public int noWeights() {
        int before = weights.count;
        weights.count = 0;
        return before;
    }

    public long share(long whole, int k) throws IndexOutOfBoundsException, IllegalArgumentException {
        if (k < 0 || k >= weights.count) {
            throw new IndexOutOfBoundsException("no such weight");
        }
        if (whole < 0 || whole > MOST_WHOLE) {
            throw new IllegalArgumentException("the whole is not 0 .. 1000000000000");
        }
        return weights.portion(whole, k);
    }

    private static boolean isUnit(int unit) {
        return unit >= -MOST_UNIT && unit <= MOST_UNIT;
    }

    private boolean isFull() {
        return valueCount >= MOST_VALUES;
    }

    private Value valueOf(int number) {
        if (number < 0 || number >= valueCount || values[number] == null) {
            throw new IndexOutOfBoundsException("no such value");
        }
        return values[number];
    }

    private Row rowOf(int number) {
        if (number < 0 || number >= rowCount) {
            throw new IndexOutOfBoundsException("no such row");
        }
        return rows[number];
    }

    private int keep(Fraction result, int unit) {
        if (isFull()) {
            return FULL;
        }
        if (result.isLong()) {
            return LONG;
        }
        values[valueCount] = new Value(result.copy(), unit);
        valueCount++;
        return valueCount - 1;
    }

    /** The first corner whose place is not before this one, or -1 if the row does not reach it. */
    private int cornerNotBefore(Row line, Fraction where) {
        for (int i = 0; i < line.count; i++) {
            int compared = calculator.compare(where, line.places[i].amount);
            if (compared == 0) {
                return i;
            }
            if (compared < 0) {
                return i == 0 ? -1 : i;
            }
        }
        return -1;
    }

    /** Leaves in first the height at a place that is on corner next, or between it and the one before. */
    private void setHeight(Row line, int next, Fraction where) {
        Fraction nextPlace = line.places[next].amount;
        Fraction nextHeight = line.heights[next].amount;
        if (next == 0 || calculator.compare(where, nextPlace) == 0) {
            first.setTo(nextHeight);
            return;
        }
        Fraction lastPlace = line.places[next - 1].amount;
        Fraction lastHeight = line.heights[next - 1].amount;
        calculator.setSum(first, where, lastPlace, true);
        calculator.setSum(second, nextPlace, lastPlace, true);
        calculator.setProduct(third, first, second, true);
        calculator.setSum(first, nextHeight, lastHeight, true);
        calculator.setProduct(second, first, third, false);
        calculator.setSum(first, lastHeight, second, false);
    }

    /** Adds to sum the area between the corner next and the one before it. */
    private void addStrip(Row line, int next) {
        calculator.setSum(first, line.places[next].amount, line.places[next - 1].amount, true);
        calculator.setSum(second, line.heights[next].amount, line.heights[next - 1].amount, false);
        calculator.setProduct(third, first, second, false);
        calculator.setProduct(first, third, half, false);
        calculator.setSum(second, sum, first, false);
        sum.setTo(second);
    }

    /** A value that is kept: it never changes, so that rows may hold it too. */
    private static final class Value {
        final Fraction amount;
        final int unit;

        Value(Fraction amount, int unit) {
            this.amount = amount;
            this.unit = unit;
        }
    }

    /** Corners by rising places. */
    private static final class Row {
        final Value[] places = new Value[MOST_CORNERS];
        final Value[] heights = new Value[MOST_CORNERS];
        int count = 0;

        void put(Value place, Value height) {
            if (count < MOST_CORNERS) {
                places[count] = place;
                heights[count] = height;
                count++;
            }
        }
    }

    /** Weights, and the shares of a whole number of units by them. */
    private static final class Weights {
        // Cuts a weight in two parts so short that a part times a sum of weights is far within a long.
        private static final long SPLIT = 32768;

        final int[] each = new int[MOST_WEIGHTS];
        final long[] cutOff = new long[MOST_WEIGHTS];
        int count = 0;

        void put(int weight) {
            if (count < MOST_WEIGHTS) {
                each[count] = weight;
                count++;
            }
        }

        long portion(long whole, int k) {
            long total = total();
            long left = whole;
            long own = 0;
            for (int i = 0; i < count; i++) {
                long part = roundedDown(whole, each[i], total);
                // The products may wrap around, but what is cut off is less than the total: it is right.
                cutOff[i] = whole * each[i] - part * total;
                left -= part;
                if (i == k) {
                    own = part;
                }
            }
            return comesBefore(k) < left ? own + 1 : own;
        }

        private long total() {
            long total = 0;
            for (int i = 0; i < count; i++) {
                total += each[i];
            }
            return total;
        }

        /** whole times weight by total, in steps that stay within a long. */
        private static long roundedDown(long whole, long weight, long total) {
            if (total <= 0) {
                return 0;
            }
            long rest = whole % total;
            long high = rest * (weight / SPLIT);
            long low = high % total * SPLIT + rest * (weight % SPLIT);
            return whole / total * weight + high / total * SPLIT + low / total;
        }

        /** How many weights get one of the units that are left before weight k does. */
        private int comesBefore(int k) {
            int before = 0;
            for (int i = 0; i < count; i++) {
                if (cutOff[i] > cutOff[k] || cutOff[i] == cutOff[k] && i < k) {
                    before++;
                }
            }
            return before;
        }
    }

    /** A fraction in lowest terms: sign, above and below; nothing is 0 / 1 with sign 0. */
    private static final class Fraction {
        int sign = 0;
        final Natural above;
        final Natural below;

        Fraction(int aboveRoom, int belowRoom) {
            above = new Natural(aboveRoom);
            below = new Natural(belowRoom);
        }

        static Fraction ofLowestTerms(int above, int below) {
            Fraction made = new Fraction(Natural.LONG_LIMBS, Natural.LONG_LIMBS);
            made.sign = above == 0 ? 0 : 1;
            made.above.setMagnitude(above);
            made.below.setMagnitude(below);
            return made;
        }

        void setTo(Fraction other) {
            sign = other.sign;
            above.setTo(other.above);
            below.setTo(other.below);
        }

        Fraction copy() {
            Fraction copy = new Fraction(above.size, below.size);
            copy.setTo(this);
            return copy;
        }

        boolean isLong() {
            return above.digits() > MOST_DIGITS || below.digits() > MOST_DIGITS;
        }
    }

    /**
     * Works on fractions in lowest terms, of any length. A target is never one of the operands.
     * Common divisors are taken out of the operands, not of the products, to keep the numbers short.
     */
    private static final class Calculator {
        final Divider divider = new Divider();
        final CommonDivisor commonDivisor = new CommonDivisor(divider);
        final Natural shared = new Natural(START_LIMBS);
        final Natural leftAbove = new Natural(START_LIMBS);
        final Natural leftBelow = new Natural(START_LIMBS);
        final Natural rightAbove = new Natural(START_LIMBS);
        final Natural rightBelow = new Natural(START_LIMBS);
        final Natural together = new Natural(START_LIMBS);

        void setRatio(Fraction target, long above, long below) {
            leftAbove.setMagnitude(above);
            leftBelow.setMagnitude(below);
            target.sign = above == 0 ? 0 : (above < 0) == (below < 0) ? 1 : -1;
            setReduced(target, leftAbove, leftBelow);
        }

        void setSum(Fraction target, Fraction left, Fraction right, boolean less) {
            shared.setTo(commonDivisor.find(left.below, right.below));
            setQuotient(leftBelow, left.below, shared);
            setQuotient(rightBelow, right.below, shared);
            leftAbove.setProduct(left.above, rightBelow);
            rightAbove.setProduct(right.above, leftBelow);
            target.sign = joinParts(left.sign, less ? -right.sign : right.sign);
            // What the sum still has in common with the product of both belows is within shared.
            Natural cut = commonDivisor.find(together, shared);
            setQuotient(target.above, together, cut);
            setQuotient(rightBelow, right.below, cut);
            target.below.setProduct(leftBelow, rightBelow);
        }

        /** left times right, or left by right if turned (which must not be nothing then). */
        void setProduct(Fraction target, Fraction left, Fraction right, boolean turned) {
            Natural above = turned ? right.below : right.above;
            Natural below = turned ? right.above : right.below;
            Natural cut = commonDivisor.find(left.above, below);
            setQuotient(leftAbove, left.above, cut);
            setQuotient(rightBelow, below, cut);
            cut = commonDivisor.find(above, left.below);
            setQuotient(rightAbove, above, cut);
            setQuotient(leftBelow, left.below, cut);
            target.sign = left.sign * right.sign;
            target.above.setProduct(leftAbove, rightAbove);
            target.below.setProduct(leftBelow, rightBelow);
        }

        void setRounded(Fraction target, Fraction number, int rule, int steps) {
            shared.setMagnitude(steps);
            leftAbove.setProduct(number.above, shared);
            divider.divide(leftAbove, number.below);
            together.setTo(divider.quotient);
            if (goesFurther(number, rule)) {
                together.increase();
            }
            target.sign = together.size == 0 ? 0 : number.sign;
            setReduced(target, together, shared);
        }

        int compare(Fraction left, Fraction right) {
            if (left.sign != right.sign) {
                return left.sign < right.sign ? -1 : 1;
            }
            leftAbove.setProduct(left.above, right.below);
            rightAbove.setProduct(right.above, left.below);
            int compared = leftAbove.compare(rightAbove);
            return left.sign < 0 ? -compared : compared;
        }

        private void setReduced(Fraction target, Natural above, Natural below) {
            Natural cut = commonDivisor.find(above, below);
            setQuotient(target.above, above, cut);
            setQuotient(target.below, below, cut);
        }

        private void setQuotient(Natural target, Natural above, Natural below) {
            divider.divide(above, below);
            target.setTo(divider.quotient);
        }

        /** Leaves in together the size of leftAbove and rightAbove with these signs, and answers its sign. */
        private int joinParts(int leftSign, int rightSign) {
            if (leftSign * rightSign >= 0) {
                together.setSum(leftAbove, rightAbove);
                return leftSign != 0 ? leftSign : rightSign;
            }
            int compared = leftAbove.compare(rightAbove);
            if (compared >= 0) {
                together.setDifference(leftAbove, rightAbove);
            } else {
                together.setDifference(rightAbove, leftAbove);
            }
            return compared * leftSign;
        }

        /** Whether a rounding goes to the quotient in divider and one more, away from 0. */
        private boolean goesFurther(Fraction number, int rule) {
            if (divider.remainder.size == 0) {
                return false;
            }
            if (rule == ROUND_DOWN) {
                return number.sign < 0;
            }
            if (rule == ROUND_UP) {
                return number.sign > 0;
            }
            rightAbove.setSum(divider.remainder, divider.remainder);
            int compared = rightAbove.compare(number.below);
            if (compared != 0) {
                return compared > 0;
            }
            return rule == ROUND_HALF_UP ? number.sign > 0 : divider.quotient.isOdd();
        }
    }

    /**
     * The greatest common divisor by Lehmer's way: many of Euclid's steps are found from the leading
     * digits alone and then done at once (Knuth, volume 2, algorithm L), since a step for step way is
     * some twenty times as dear at 900 digits.
     */
    private static final class CommonDivisor {
        // Far above what numbers of any length here can need.
        private static final int MOST_ROUNDS = 1000000;
        private static final int MOST_SHORT_ROUNDS = 100;
        // Keeps a factor times a limb, and a quotient times a factor, within a long.
        private static final long MOST_FACTOR = 2000000000L;

        final Divider divider;
        final Natural big = new Natural(START_LIMBS);
        final Natural small = new Natural(START_LIMBS);
        // Euclid's next pair is a big + b small, c big + d small.
        long a;
        long b;
        long c;
        long d;

        CommonDivisor(Divider divider) {
            this.divider = divider;
        }

        /** Its answer holds up to the next call. Of 0 and another number it is the other one. */
        Natural find(Natural left, Natural right) {
            boolean inOrder = left.compare(right) >= 0;
            big.setTo(inOrder ? left : right);
            small.setTo(inOrder ? right : left);
            for (int i = 0; i < MOST_ROUNDS && big.size > 2 && small.size > 0; i++) {
                if (findFactors()) {
                    useFactors();
                } else {
                    divider.divide(big, small);
                    big.setTo(small);
                    small.setTo(divider.remainder);
                }
            }
            if (small.size > 0) {
                big.setMagnitude(findShort(big.lowTwo(), small.lowTwo()));
            }
            return big;
        }

        private static long findShort(long big, long small) {
            long greater = big;
            long less = small;
            for (int i = 0; i < MOST_SHORT_ROUNDS && less != 0; i++) {
                long rest = greater % less;
                greater = less;
                less = rest;
            }
            return greater;
        }

        /** Finds the factors that stand for as many steps as are sure; false if not one is. */
        private boolean findFactors() {
            int topDigits = Natural.digitsOfLimb(big.limb(big.size - 1));
            long x = big.leading(big.size, topDigits);
            long y = small.leading(big.size, topDigits);
            a = 1;
            b = 0;
            c = 0;
            d = 1;
            for (int i = 0; i < MOST_SHORT_ROUNDS && y + c > 0 && y + d > 0; i++) {
                long quotient = (x + a) / (y + c);
                if (quotient > MOST_FACTOR || quotient != (x + b) / (y + d)) {
                    break;
                }
                long nextC = a - quotient * c;
                long nextD = b - quotient * d;
                if (Math.abs(nextC) > MOST_FACTOR || Math.abs(nextD) > MOST_FACTOR) {
                    break;
                }
                a = c;
                b = d;
                c = nextC;
                d = nextD;
                long rest = x - quotient * y;
                x = y;
                y = rest;
            }
            return b != 0;
        }

        private void useFactors() {
            int size = big.size;
            small.widen(size);
            long bigCarry = 0;
            long smallCarry = 0;
            for (int i = 0; i < size; i++) {
                long x = big.limbs[i];
                long y = small.limbs[i];
                long bigPart = a * x + b * y + bigCarry;
                long smallPart = c * x + d * y + smallCarry;
                bigCarry = Math.floorDiv(bigPart, BASE);
                smallCarry = Math.floorDiv(smallPart, BASE);
                big.limbs[i] = (int) (bigPart - bigCarry * BASE);
                small.limbs[i] = (int) (smallPart - smallCarry * BASE);
            }
            big.trim();
            small.trim();
        }
    }

    /** Long division (Knuth, volume 2, algorithm D). Its answers hold up to the next division. */
    private static final class Divider {
        private static final int MOST_CORRECTIONS = 4;

        final Natural quotient = new Natural(START_LIMBS);
        final Natural remainder = new Natural(START_LIMBS);
        final Natural divisor = new Natural(START_LIMBS);

        /** By 0 it answers quotient 0; no caller asks that. */
        void divide(Natural above, Natural below) {
            int top = below.limb(below.size - 1);
            if (top == 0 || above.compare(below) < 0) {
                quotient.size = 0;
                remainder.setTo(above);
            } else if (below.size == 1) {
                quotient.setTo(above);
                remainder.setMagnitude(quotient.reduce(top));
            } else {
                // Scaled so that the divisor's top limb is at least half the base: guesses are then close.
                int scale = (int) (BASE / (top + 1L));
                remainder.setScaled(above, scale);
                divisor.setScaled(below, scale);
                divideScaled(above.size - below.size);
                remainder.reduce(scale);
            }
        }

        /** Leaves the scaled remainder untrimmed. */
        private void divideScaled(int shift) {
            int size = divisor.size;
            quotient.grow(shift + 1);
            for (int i = shift; i >= 0; i--) {
                int guess = guessLimb(i + size);
                if (subtract(i, guess)) {
                    giveBack(i);
                    guess--;
                }
                quotient.limbs[i] = guess;
            }
            quotient.size = shift + 1;
            quotient.trim();
            remainder.size = size;
        }

        /** The quotient's next limb, by the leading limbs from this place down: right, or one too many. */
        private int guessLimb(int place) {
            long top = divisor.limbs[divisor.size - 1];
            long next = divisor.limbs[divisor.size - 2];
            if (top <= 0) {
                return 0;
            }
            long leading = remainder.limbs[place] * BASE + remainder.limbs[place - 1];
            long guess = leading / top;
            long rest = leading - guess * top;
            for (int i = 0; i < MOST_CORRECTIONS && rest < BASE; i++) {
                if (guess < BASE && guess * next <= rest * BASE + remainder.limbs[place - 2]) {
                    break;
                }
                guess--;
                rest += top;
            }
            return (int) guess;
        }

        /** Takes the divisor many times from the remainder, from this place on; true if that was too much. */
        private boolean subtract(int place, long many) {
            long carry = 0;
            for (int i = 0; i < divisor.size; i++) {
                long product = divisor.limbs[i] * many + carry;
                carry = product / BASE;
                long limb = remainder.limbs[place + i] - (product - carry * BASE);
                if (limb < 0) {
                    limb += BASE;
                    carry++;
                }
                remainder.limbs[place + i] = (int) limb;
            }
            // The limb on top comes to 0 and is not read again, so it stays as it was.
            return remainder.limbs[place + divisor.size] < carry;
        }

        /** Gives the divisor back once; the carry out of the top cancels what was too much there. */
        private void giveBack(int place) {
            long carry = 0;
            for (int i = 0; i < divisor.size; i++) {
                long limb = (long) remainder.limbs[place + i] + divisor.limbs[i] + carry;
                carry = limb / BASE;
                remainder.limbs[place + i] = (int) (limb - carry * BASE);
            }
        }
    }

    /** A whole number from 0 on: size limbs, the lowest first, the top one not 0. */
    private static final class Natural {
        private static final int LONG_LIMBS = 3;

        int[] limbs;
        int size = 0;

        Natural(int room) {
            limbs = new int[Math.max(room, 0)];
        }

        /** Room is doubled at least, so that all that is ever made stays within twice what is needed. */
        void grow(int needed) {
            if (needed > limbs.length) {
                limbs = Arrays.copyOf(limbs, Math.max(needed, 2 * limbs.length));
            }
        }

        /** Has this many limbs, with 0 on top; trim must follow. */
        void widen(int wanted) {
            grow(wanted);
            for (int i = size; i < wanted; i++) {
                limbs[i] = 0;
            }
            size = wanted;
        }

        void trim() {
            while (size > 0 && limbs[size - 1] == 0) {
                size--;
            }
        }

        int limb(int i) {
            return i >= 0 && i < size ? limbs[i] : 0;
        }

        long lowTwo() {
            return limb(1) * BASE + limb(0);
        }

        boolean isOdd() {
            return limb(0) % 2 != 0;
        }

        int compare(Natural other) {
            if (size != other.size) {
                return size < other.size ? -1 : 1;
            }
            for (int i = size - 1; i >= 0; i--) {
                if (limbs[i] != other.limbs[i]) {
                    return limbs[i] < other.limbs[i] ? -1 : 1;
                }
            }
            return 0;
        }

        int digits() {
            return size == 0 ? 1 : (size - 1) * LIMB_DIGITS + digitsOfLimb(limb(size - 1));
        }

        int decimal(int i) {
            return i < 0 ? 0 : limb(i / LIMB_DIGITS) / TENS[i % LIMB_DIGITS] % 10;
        }

        static int digitsOfLimb(int limb) {
            int digits = 1;
            while (digits < LIMB_DIGITS && limb >= TENS[digits]) {
                digits++;
            }
            return digits;
        }

        /** The first 18 digits, as of a number that has this many limbs and this many digits in its top one. */
        long leading(int asSize, int topDigits) {
            if (topDigits < 1 || topDigits > LIMB_DIGITS) {
                return 0;
            }
            long top = limb(asSize - 1) * BASE + limb(asSize - 2);
            return top * TENS[LIMB_DIGITS - topDigits] + limb(asSize - 3) / TENS[topDigits];
        }

        void setTo(Natural other) {
            grow(other.size);
            System.arraycopy(other.limbs, 0, limbs, 0, other.size);
            size = other.size;
        }

        /** The lowest long has no opposite, so the sign goes limb by limb. */
        void setMagnitude(long number) {
            grow(LONG_LIMBS);
            long rest = number;
            for (int i = 0; i < LONG_LIMBS; i++) {
                limbs[i] = (int) Math.abs(rest % BASE);
                rest /= BASE;
            }
            size = LONG_LIMBS;
            trim();
        }

        void setSum(Natural left, Natural right) {
            int length = Math.max(left.size, right.size);
            grow(length + 1);
            int carry = 0;
            for (int i = 0; i < length; i++) {
                long limb = (long) left.limb(i) + right.limb(i) + carry;
                carry = limb >= BASE ? 1 : 0;
                limbs[i] = (int) (limb - carry * BASE);
            }
            limbs[length] = carry;
            size = length + 1;
            trim();
        }

        /** Left must not be less than right. */
        void setDifference(Natural left, Natural right) {
            grow(left.size);
            int borrow = 0;
            for (int i = 0; i < left.size; i++) {
                long limb = (long) left.limbs[i] - right.limb(i) - borrow;
                borrow = limb < 0 ? 1 : 0;
                limbs[i] = (int) (limb + borrow * BASE);
            }
            size = left.size;
            trim();
        }

        /** This must be neither left nor right. */
        void setProduct(Natural left, Natural right) {
            size = 0;
            widen(left.size + right.size);
            for (int i = 0; i < left.size; i++) {
                long factor = left.limbs[i];
                long carry = 0;
                for (int j = 0; j < right.size; j++) {
                    long limb = factor * right.limbs[j] + limbs[i + j] + carry;
                    carry = limb / BASE;
                    limbs[i + j] = (int) (limb - carry * BASE);
                }
                limbs[i + right.size] = (int) carry;
            }
            trim();
        }

        /** Other times scale. Its top limb is written even if it is 0 and beyond the size: a division reads it. */
        void setScaled(Natural other, int scale) {
            grow(other.size + 1);
            long carry = 0;
            for (int i = 0; i < other.size; i++) {
                long limb = (long) other.limbs[i] * scale + carry;
                carry = limb / BASE;
                limbs[i] = (int) (limb - carry * BASE);
            }
            limbs[other.size] = (int) carry;
            size = other.size + 1;
            trim();
        }

        void increase() {
            widen(size + 1);
            int carry = 1;
            for (int i = 0; i < size && carry > 0; i++) {
                carry = limbs[i] + 1 == BASE ? 1 : 0;
                limbs[i] = carry > 0 ? 0 : limbs[i] + 1;
            }
            trim();
        }

        /** Divides this by one limb, and answers what remains. */
        long reduce(int divisor) {
            if (divisor <= 0) {
                return 0;
            }
            long rest = 0;
            for (int i = size - 1; i >= 0; i--) {
                long limb = rest * BASE + limbs[i];
                limbs[i] = (int) (limb / divisor);
                rest = limb % divisor;
            }
            trim();
            return rest;
        }
    }
}
