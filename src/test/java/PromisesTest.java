import java.util.function.LongSupplier;

/** Each promise of the document by its number: ordinary inputs, the edges it names, wrong inputs. */
public final class PromisesTest {
    private static final int UNLIKE = MetreFractions.UNLIKE;
    private static final int FULL = MetreFractions.FULL;
    private static final int LONG = MetreFractions.LONG;
    private static final int OUTSIDE = MetreFractions.OUTSIDE;

    private final Check check = new Check();
    private Counted x = new Counted();
    private int promise = 0;

    public static void main(String[] args) {
        PromisesTest test = new PromisesTest();
        test.newObject();
        test.values();
        test.valuesFull();
        test.sums();
        test.sumsLong();
        test.products();
        test.productsLong();
        test.quotients();
        test.orders();
        test.roundings();
        test.roundingsLong();
        test.roundingsByLongDivision();
        test.prisms();
        test.prismsLong();
        test.tellings();
        test.digits();
        test.clearings();
        test.rows();
        test.corners();
        test.cornersUnlikeFullOutside();
        test.heights();
        test.heightsOverLongWays();
        test.areas();
        test.areasLong();
        test.weights();
        test.noWeights();
        test.shares();
        test.sharesOfMuch();
        test.check.end("PromisesTest");
    }

    // ---- helpers

    private void begin(int number) {
        promise = number;
        x = new Counted();
    }

    private void due(String call, LongSupplier got, long want) {
        check.due("promise " + promise + ": " + call, got, want);
    }

    private void noSuch(String call, LongSupplier got) {
        check.thrown("promise " + promise + ": " + call, got, IndexOutOfBoundsException.class);
    }

    private void byNothing(String call, LongSupplier got) {
        check.thrown("promise " + promise + ": " + call, got, ArithmeticException.class);
    }

    private void outOfBounds(String call, LongSupplier got) {
        check.thrown("promise " + promise + ": " + call, got, IllegalArgumentException.class);
    }

    private void reads(int a, String want) {
        check.same("promise " + promise + ": value " + a, a < 0 ? Integer.toString(a) : Cases.read(x, a), want);
    }

    /** Ten to this power, of this unit. */
    private int ten(int power, int unit) {
        return States.of(x, States.ten(x, power), unit);
    }

    private void fill() {
        while (x.value(1, 1, 0) >= 0) {
            continue;
        }
    }

    // ---- promise 1

    private void newObject() {
        begin(1);
        noSuch("told", () -> x.told(0, 0));
        noSuch("area", () -> x.area(0));
        noSuch("share", () -> x.share(1, 0));
        due("clear", () -> x.clear(), 0);
        due("noWeights", () -> x.noWeights(), 0);
        due("value", () -> x.value(5, 1, 0), 0);
        due("row", () -> x.row(), 0);
        due("weight", () -> x.weight(1), 1);
        Counted other = new Counted();
        due("another object's clear", () -> other.clear(), 0);
        due("another object's noWeights", () -> other.noWeights(), 0);
    }

    // ---- promise 2

    private void values() {
        begin(2);
        due("value", () -> x.value(6, -4, 1), 0);
        reads(0, "-3/2 [1]");
        reads(x.value(-6, -4, -6), "3/2 [-6]");
        reads(x.value(0, -77, 6), "0/1 [6]");
        reads(x.value(Long.MIN_VALUE, 1, 0), "-9223372036854775808/1 [0]");
        reads(x.value(1, Long.MIN_VALUE, 0), "-1/9223372036854775808 [0]");
        reads(x.value(Long.MIN_VALUE, Long.MIN_VALUE, 0), "1/1 [0]");
        reads(x.value(Long.MAX_VALUE, Long.MIN_VALUE, 0), "-9223372036854775807/9223372036854775808 [0]");
        reads(x.value(1000000000, 1000000000000000000L, 2), "1/1000000000 [2]");
        byNothing("value(1, 0, 0)", () -> x.value(1, 0, 0));
        byNothing("value(0, 0, 7)", () -> x.value(0, 0, 7));
        outOfBounds("value(1, 1, 7)", () -> x.value(1, 1, 7));
        outOfBounds("value(1, 1, -7)", () -> x.value(1, 1, -7));
        outOfBounds("value(1, 1, MIN)", () -> x.value(1, 1, Integer.MIN_VALUE));
        due("clear", () -> x.clear(), 8);
    }

    private void valuesFull() {
        begin(2);
        fill();
        due("value", () -> x.value(1, 1, 1), FULL);
        byNothing("value(1, 0, 1)", () -> x.value(1, 0, 1));
        outOfBounds("value(1, 1, 9)", () -> x.value(1, 1, 9));
        due("add", () -> x.add(0, 199, false), FULL);
        due("times", () -> x.times(0, 199), FULL);
        due("over", () -> x.over(0, 199), FULL);
        due("round", () -> x.round(0, 0, 1), FULL);
        outOfBounds("round", () -> x.round(0, 0, 0));
        due("prism", () -> x.prism(0, 0, 0, 199), FULL);
        noSuch("add", () -> x.add(0, 200, false));
        due("order", () -> x.order(0, 199), 0);
        due("told", () -> x.told(199, 1), 1);
        due("clear", () -> x.clear(), 200);
        due("value", () -> x.value(1, 1, 1), 0);
    }

    // ---- promise 3

    private void sums() {
        begin(3);
        int third = x.value(1, 3, 1);
        int sixth = x.value(-1, 6, 1);
        int area = x.value(1, 3, 2);
        reads(x.add(third, sixth, false), "1/6 [1]");
        reads(x.add(third, sixth, true), "1/2 [1]");
        reads(x.add(sixth, third, true), "-1/2 [1]");
        reads(x.add(third, third, true), "0/1 [1]");
        reads(x.add(third, third, false), "2/3 [1]");
        reads(x.add(x.value(999999999999999999L, 1, 0), x.value(1, 1, 0), false), "1000000000000000000/1 [0]");
        reads(x.add(x.value(0, 1, 0), x.value(5, 7, 0), true), "-5/7 [0]");
        due("add of unlike units", () -> x.add(third, area, false), UNLIKE);
        noSuch("add(-1, 0)", () -> x.add(-1, 0, false));
        noSuch("add(0, 99)", () -> x.add(0, 99, true));
        fill();
        due("UNLIKE before FULL", () -> x.add(third, area, true), UNLIKE);
    }

    private void sumsLong() {
        begin(3);
        int most = ten(899, 0);
        int one = x.value(1, 1, 0);
        int nine = x.times(x.value(9, 1, 0), most);
        int rest = x.add(most, one, true);
        int nines = x.add(nine, rest, false);
        due("digits", () -> x.told(nines, 1), 900);
        int before = x.value(1, 1, 0);
        due("900 nines and one", () -> x.add(nines, one, false), LONG);
        due("less one more", () -> x.add(x.times(nines, x.value(-1, 1, 0)), one, true), LONG);
        due("a value after LONG", () -> x.value(1, 1, 0), before + 3);
        int small = x.over(one, most);
        due("digits below", () -> x.told(small, 2), 900);
        due("long above", () -> x.add(nines, small, false), LONG);
        int two = x.add(small, small, false);
        due("digits below of twice", () -> x.told(two, 2), 899);
        due("one less a small one", () -> x.told(x.add(one, small, true), 1), 899);
    }

    // ---- promise 4

    private void products() {
        begin(4);
        int a = x.value(-2, 3, 1);
        int b = x.value(9, 4, 5);
        int c = x.value(1, 1, -6);
        reads(x.times(a, b), "-3/2 [6]");
        reads(x.times(b, c), "9/4 [-1]");
        reads(x.times(a, a), "4/9 [2]");
        reads(x.times(x.value(0, 1, 2), a), "0/1 [3]");
        due("unit 10", () -> x.times(b, b), UNLIKE);
        due("unit -12", () -> x.times(c, c), UNLIKE);
        due("unit 7", () -> x.times(b, x.value(0, 1, 2)), UNLIKE);
        noSuch("times(0, -1)", () -> x.times(0, -1));
        noSuch("times(50, 0)", () -> x.times(50, 0));
        fill();
        due("UNLIKE before FULL", () -> x.times(b, b), UNLIKE);
        due("FULL", () -> x.times(a, a), FULL);
    }

    private void productsLong() {
        begin(4);
        int most = ten(899, 0);
        due("digits", () -> x.told(most, 1), 900);
        int ten = x.value(10, 1, 0);
        int tenth = x.value(1, 10, 0);
        due("901 digits above", () -> x.times(most, ten), LONG);
        int small = x.over(x.value(1, 1, 0), most);
        due("901 digits below", () -> x.times(small, tenth), LONG);
        due("long before, not in lowest terms", () -> x.told(x.times(most, small), 1), 1);
        due("UNLIKE before LONG", () -> x.times(x.times(most, x.value(1, 1, 6)), x.value(10, 1, 1)), UNLIKE);
        fill();
        due("FULL before LONG", () -> x.times(most, ten), FULL);
    }

    // ---- promise 5

    private void quotients() {
        begin(5);
        int a = x.value(-2, 3, 1);
        int b = x.value(-8, 9, 3);
        int low = x.value(1, 1, -6);
        int zero = x.value(0, 1, -6);
        reads(x.over(a, b), "3/4 [-2]");
        reads(x.over(b, a), "4/3 [2]");
        reads(x.over(a, a), "1/1 [0]");
        reads(x.over(x.value(0, 1, 1), a), "0/1 [0]");
        reads(x.over(low, low), "1/1 [0]");
        due("unit 7", () -> x.over(a, low), UNLIKE);
        due("unit -7", () -> x.over(low, a), UNLIKE);
        byNothing("by 0, ahead of UNLIKE", () -> x.over(a, zero));
        byNothing("0 by 0", () -> x.over(zero, zero));
        noSuch("no value by 0", () -> x.over(-1, zero));
        noSuch("by no value", () -> x.over(a, 100));
        int most = ten(899, 0);
        int tenth = x.value(1, 10, 0);
        due("901 digits below", () -> x.over(tenth, most), LONG);
        due("901 digits above", () -> x.over(most, tenth), LONG);
        fill();
        byNothing("by 0, ahead of FULL", () -> x.over(a, zero));
        due("FULL before LONG", () -> x.over(most, tenth), FULL);
    }

    // ---- promise 6

    private void orders() {
        begin(6);
        int third = x.value(1, 3, 1);
        int half = x.value(1, 2, 1);
        int minusHalf = x.value(-1, 2, 1);
        int minusThird = x.value(-1, 3, 1);
        int zero = x.value(0, 1, 1);
        due("1/3, 1/2", () -> x.order(third, half), -1);
        due("1/2, 1/3", () -> x.order(half, third), 1);
        due("-1/2, -1/3", () -> x.order(minusHalf, minusThird), -1);
        due("-1/3, -1/2", () -> x.order(minusThird, minusHalf), 1);
        due("0, 1/3", () -> x.order(zero, third), -1);
        due("0, -1/3", () -> x.order(zero, minusThird), 1);
        due("-1/3, 1/3", () -> x.order(minusThird, third), -1);
        due("0, 0", () -> x.order(zero, x.value(0, -9, 1)), 0);
        due("1/2, 2/4", () -> x.order(half, x.value(2, 4, 1)), 0);
        due("unlike", () -> x.order(half, x.value(1, 2, 0)), UNLIKE);
        noSuch("order(0, 99)", () -> x.order(0, 99));
        noSuch("order(-1, 0)", () -> x.order(-1, 0));
        int most = ten(890, 1);
        due("long ones", () -> x.order(most, x.add(most, third, false)), -1);
        int one = x.value(1, 1, 1);
        int more = x.add(most, one, false);
        int near = x.over(most, more);
        int nearer = x.over(more, x.add(more, one, false));
        due("long ones above and below", () -> x.order(near, nearer), -1);
        due("the other way", () -> x.order(nearer, near), 1);
    }

    // ---- promise 7

    private void roundings() {
        begin(7);
        String[] wanted = {
            // 5/2, -5/2, 3/2, -3/2, 7/3, -7/3, 8/3, -8/3, 4, 1/4, -1/4 by rules 0 to 3
            "2/1", "3/1", "3/1", "2/1", "-3/1", "-2/1", "-2/1", "-2/1",
            "1/1", "2/1", "2/1", "2/1", "-2/1", "-1/1", "-1/1", "-2/1",
            "2/1", "3/1", "2/1", "2/1", "-3/1", "-2/1", "-2/1", "-2/1",
            "2/1", "3/1", "3/1", "3/1", "-3/1", "-2/1", "-3/1", "-3/1",
            "4/1", "4/1", "4/1", "4/1",
            "0/1", "1/1", "0/1", "0/1", "-1/1", "0/1", "0/1", "0/1"
        };
        int[] numbers = {
            x.value(5, 2, 1), x.value(-5, 2, 1), x.value(3, 2, 1), x.value(-3, 2, 1),
            x.value(7, 3, 1), x.value(-7, 3, 1), x.value(8, 3, 1), x.value(-8, 3, 1),
            x.value(4, 1, 1), x.value(1, 4, 1), x.value(-1, 4, 1)
        };
        for (int i = 0; i < numbers.length; i++) {
            for (int rule = 0; rule < 4; rule++) {
                reads(x.round(numbers[i], rule, 1), wanted[4 * i + rule] + " [1]");
            }
        }
        int third = x.value(1, 3, -2);
        reads(x.round(third, 0, 4), "1/4 [-2]");
        reads(x.round(third, 1, 4), "1/2 [-2]");
        reads(x.round(third, 2, 6), "1/3 [-2]");
        reads(x.round(third, 0, 1000000000), "333333333/1000000000 [-2]");
        reads(x.round(x.value(1, 8, 0), 3, 4), "0/1 [0]");
        reads(x.round(x.value(3, 8, 0), 3, 4), "1/2 [0]");
        outOfBounds("rule -1", () -> x.round(third, -1, 1));
        outOfBounds("rule 4", () -> x.round(third, 4, 1));
        outOfBounds("0 steps", () -> x.round(third, 0, 0));
        outOfBounds("-1 steps", () -> x.round(third, 0, -1));
        outOfBounds("1000000001 steps", () -> x.round(third, 0, 1000000001));
        noSuch("no value, ahead of all", () -> x.round(-1, 4, 0));
        noSuch("no value", () -> x.round(190, 0, 1));
    }

    private void roundingsLong() {
        begin(7);
        int most = ten(899, 0);
        int odd = x.add(most, x.value(4, 1, 0), false);
        int third = x.over(odd, x.value(3, 1, 0));
        due("digits", () -> x.told(third, 1), 900);
        due("long parts of many steps", () -> x.round(third, 0, 999999937), LONG);
        due("few steps", () -> x.told(x.round(third, 0, 1), 1), 899);
        due("many steps of a whole number", () -> x.told(x.round(most, 0, 999999937), 1), 900);
        int nines = x.add(x.times(x.value(9, 1, 0), most), x.add(most, x.value(1, 1, 0), true), false);
        int half = x.over(nines, x.value(2, 1, 0));
        due("half of 900 nines up", () -> x.told(x.round(half, 1, 1), 1), 900);
        due("its last digit", () -> x.digit(x.round(half, 1, 1), 0, 899), 5);
        int near = x.over(nines, x.add(most, x.value(1, 1, 0), true));
        reads(x.round(near, 0, 1), "10/1 [0]");
        reads(x.round(near, 1, 1), "11/1 [0]");
    }

    /** Divisions whose first guess of a limb is one too many. */
    private void roundingsByLongDivision() {
        begin(7);
        int half = x.times(x.value(500000000, 1, 0), x.value(1000000000000000000L, 1, 0));
        int below = x.add(half, x.value(1, 1, 0), false);
        int above = x.add(x.times(half, x.value(7, 1, 0)), x.value(3, 1, 0), false);
        int quotient = x.over(above, below);
        reads(x.round(quotient, 0, 1), "6/1 [0]");
        reads(x.round(quotient, 1, 1), "7/1 [0]");
        reads(x.round(quotient, 2, 1), "7/1 [0]");
        int rest = x.add(quotient, x.value(6, 1, 0), true);
        reads(x.add(rest, x.value(1, 1, 0), true), "-4/500000000000000000000000001 [0]");
    }

    // ---- promise 8

    private void prisms() {
        begin(8);
        int a = x.value(3, 2, 2);
        int b = x.value(5, 2, 2);
        int c = x.value(1, 3, 2);
        int h = x.value(2, 1, 1);
        int high = x.value(2, 1, 5);
        int low = x.value(-7, 2, -6);
        reads(x.prism(a, b, c, h), "71/18 [3]");
        reads(x.prism(a, a, a, h), "3/1 [3]");
        reads(x.prism(c, b, a, low), "-497/72 [-4]");
        reads(x.prism(a, b, c, x.value(0, 1, 1)), "0/1 [3]");
        due("unit of a", () -> x.prism(h, b, c, h), UNLIKE);
        due("unit of b", () -> x.prism(a, h, c, h), UNLIKE);
        due("unit of c", () -> x.prism(a, b, h, h), UNLIKE);
        due("unit 7", () -> x.prism(a, b, c, high), UNLIKE);
        noSuch("no a", () -> x.prism(-1, b, c, h));
        noSuch("no b", () -> x.prism(a, 99, c, h));
        noSuch("no c", () -> x.prism(a, b, -5, h));
        noSuch("no h", () -> x.prism(a, b, c, Integer.MAX_VALUE));
        fill();
        due("UNLIKE before FULL", () -> x.prism(a, b, c, high), UNLIKE);
    }

    private void prismsLong() {
        begin(8);
        int most = ten(899, 1);
        int minus = x.times(most, x.value(-1, 1, 0));
        int two = x.value(2, 1, 1);
        int small = x.over(x.value(1, 1, 0), ten(800, 0));
        due("901 digits", () -> x.prism(most, most, most, x.value(10, 1, 0)), LONG);
        due("900 digits", () -> x.told(x.prism(most, most, most, x.value(1, 1, 0)), 1), 900);
        reads(x.prism(most, two, minus, x.value(3, 1, 0)), "4/1 [1]");
        due("long on the way alone", () -> x.told(x.prism(most, most, most, small), 1), 100);
    }

    // ---- promise 9

    private void tellings() {
        begin(9);
        int a = x.value(-1234, 56789, -3);
        due("sign", () -> x.told(a, 0), -1);
        due("above", () -> x.told(a, 1), 4);
        due("below", () -> x.told(a, 2), 5);
        due("unit", () -> x.told(a, 3), -3);
        int zero = x.value(0, 12, 4);
        due("sign of 0", () -> x.told(zero, 0), 0);
        due("above of 0", () -> x.told(zero, 1), 1);
        due("below of 0", () -> x.told(zero, 2), 1);
        due("unit of 0", () -> x.told(zero, 3), 4);
        due("sign above 0", () -> x.told(x.value(1, 5, 0), 0), 1);
        int nine = x.value(999999999, 1, 0);
        int ten = x.value(1000000000, 1, 0);
        due("9 digits", () -> x.told(nine, 1), 9);
        due("10 digits", () -> x.told(ten, 1), 10);
        due("18 digits", () -> x.told(x.value(999999999999999999L, 1, 0), 1), 18);
        due("19 digits", () -> x.told(x.value(1, 1000000000000000000L, 0), 2), 19);
        outOfBounds("what -1", () -> x.told(a, -1));
        outOfBounds("what 4", () -> x.told(a, 4));
        noSuch("no value", () -> x.told(-1, 0));
        noSuch("no value, ahead of what", () -> x.told(99, 4));
    }

    // ---- promise 10

    private void digits() {
        begin(10);
        int a = x.value(-876543210123456789L, 1, 0);
        reads(x.value(-1234567890123456789L, 1000000007L, 0), "-1234567890123456789/1000000007 [0]");
        int b = x.value(1000000007, 2000000000000000011L, 0);
        due("last", () -> x.digit(b, 0, 0), 7);
        due("second limb", () -> x.digit(b, 0, 9), 1);
        due("below, last but one", () -> x.digit(b, 1, 1), 1);
        due("below, first", () -> x.digit(b, 1, 18), 2);
        noSuch("behind above", () -> x.digit(b, 0, 10));
        noSuch("behind below", () -> x.digit(b, 1, 19));
        noSuch("before the last", () -> x.digit(b, 0, -1));
        noSuch("far behind", () -> x.digit(b, 1, Integer.MAX_VALUE));
        noSuch("far before", () -> x.digit(b, 1, Integer.MIN_VALUE));
        due("0", () -> x.digit(x.value(0, 1, 0), 0, 0), 0);
        noSuch("0 has one digit", () -> x.digit(3, 0, 1));
        outOfBounds("part 2", () -> x.digit(b, 2, 0));
        outOfBounds("part -1", () -> x.digit(b, -1, 0));
        outOfBounds("part 2, a digit that is nowhere", () -> x.digit(b, 2, 5000));
        noSuch("part 2, i below 0", () -> x.digit(b, 2, -1));
        noSuch("part 2, no value", () -> x.digit(99, 2, 0));
        noSuch("no value", () -> x.digit(-1, 0, 0));
        due("values", () -> x.clear() - a, 4);
    }

    // ---- promise 11

    private void clearings() {
        begin(11);
        int a = x.value(1, 1, 0);
        x.value(2, 1, 0);
        x.row();
        x.corner(0, a, a);
        x.weight(3);
        due("clear", () -> x.clear(), 2);
        noSuch("a value after it", () -> x.told(0, 0));
        noSuch("a row after it", () -> x.area(0));
        due("weights stay", () -> x.share(9, 0), 9);
        due("clear again", () -> x.clear(), 0);
        due("values from 0 on", () -> x.value(7, 1, 3), 0);
        due("rows from 0 on", () -> x.row(), 0);
        due("without corners", () -> x.area(0), OUTSIDE);
        due("of any unit", () -> x.corner(0, 0, 0), 1);
        reads(0, "7/1 [3]");
    }

    // ---- promise 12

    private void rows() {
        begin(12);
        for (int i = 0; i < 8; i++) {
            int number = i;
            noSuch("no row yet", () -> x.area(number));
            due("row", () -> x.row(), i);
            due("no corners", () -> x.area(number), OUTSIDE);
        }
        due("row", () -> x.row(), FULL);
        noSuch("row 8", () -> x.area(8));
        x.clear();
        due("row after clear", () -> x.row(), 0);
    }

    // ---- promise 13

    private void corners() {
        begin(13);
        int row = x.row();
        int zero = x.value(0, 1, 1);
        int one = x.value(1, 1, 1);
        int height = x.value(5, 1, 2);
        noSuch("no row", () -> x.corner(1, zero, height));
        noSuch("row -1", () -> x.corner(-1, zero, height));
        noSuch("no place", () -> x.corner(row, 3, height));
        noSuch("no height", () -> x.corner(row, zero, -1));
        due("first", () -> x.corner(row, zero, height), 1);
        due("the same place", () -> x.corner(row, zero, height), OUTSIDE);
        due("a place before", () -> x.corner(row, x.value(-1, 5, 1), height), OUTSIDE);
        due("second", () -> x.corner(row, one, height), 2);
        due("behind the first, before the last", () -> x.corner(row, x.value(1, 2, 1), height), OUTSIDE);
        due("unlike place", () -> x.corner(row, height, height), UNLIKE);
        due("unlike height", () -> x.corner(row, x.value(2, 1, 1), one), UNLIKE);
        due("UNLIKE before OUTSIDE", () -> x.corner(row, zero, one), UNLIKE);
        due("third", () -> x.corner(row, x.value(10, 9, 1), height), 3);
        int other = x.row();
        due("another row's units are its own", () -> x.corner(other, height, zero), 1);
        due("units that no area has", () -> x.corner(x.row(), x.value(1, 1, 6), x.value(1, 1, 6)), 1);
    }

    private void cornersUnlikeFullOutside() {
        begin(13);
        int row = x.row();
        int height = x.value(-1, 3, 0);
        for (int i = 1; i <= 16; i++) {
            int place = x.value(i, 3, 1);
            due("corner", () -> x.corner(row, place, height), i);
        }
        int behind = x.value(99, 1, 1);
        due("FULL", () -> x.corner(row, behind, height), FULL);
        due("FULL before OUTSIDE", () -> x.corner(row, 1, height), FULL);
        due("UNLIKE before FULL", () -> x.corner(row, height, height), UNLIKE);
        noSuch("ahead of UNLIKE", () -> x.corner(row, height, 999));
        fill();
        int other = x.row();
        due("a corner makes no value", () -> x.corner(other, behind, height), 1);
    }

    // ---- promise 14

    private void heights() {
        begin(14);
        int row = x.row();
        int p0 = x.value(1, 2, 1);
        noSuch("no row", () -> x.at(1, p0));
        noSuch("no place", () -> x.at(row, 5));
        due("no corners", () -> x.at(row, p0), OUTSIDE);
        int h0 = x.value(-3, 1, -2);
        x.corner(row, p0, h0);
        reads(x.at(row, p0), "-3/1 [-2]");
        due("before a single corner", () -> x.at(row, x.value(1, 3, 1)), OUTSIDE);
        due("behind a single corner", () -> x.at(row, x.value(2, 3, 1)), OUTSIDE);
        int p1 = x.value(5, 2, 1);
        x.corner(row, p1, x.value(4, 1, -2));
        x.corner(row, x.value(4, 1, 1), x.value(1, 7, -2));
        reads(x.at(row, p0), "-3/1 [-2]");
        reads(x.at(row, x.value(3, 2, 1)), "1/2 [-2]");
        reads(x.at(row, x.value(1, 1, 1)), "-5/4 [-2]");
        reads(x.at(row, p1), "4/1 [-2]");
        reads(x.at(row, x.value(3, 1, 1)), "19/7 [-2]");
        reads(x.at(row, x.value(4, 1, 1)), "1/7 [-2]");
        int before = x.value(49, 100, 1);
        int behind = x.value(401, 100, 1);
        due("before the first", () -> x.at(row, before), OUTSIDE);
        due("behind the last", () -> x.at(row, behind), OUTSIDE);
        due("unlike", () -> x.at(row, h0), UNLIKE);
        fill();
        due("UNLIKE before FULL", () -> x.at(row, h0), UNLIKE);
        due("OUTSIDE before FULL", () -> x.at(row, behind), OUTSIDE);
        due("FULL", () -> x.at(row, p0), FULL);
        due("no corners before FULL", () -> x.at(x.row(), h0), OUTSIDE);
    }

    /** Heights that are short though their way there is long, and one that is long. */
    private void heightsOverLongWays() {
        begin(14);
        int row = x.row();
        int most = ten(899, 1);
        int minus = x.times(most, x.value(-1, 1, 0));
        int high = x.times(most, x.value(3, 1, -1));
        int low = x.times(most, x.value(-3, 1, -1));
        x.corner(row, minus, low);
        x.corner(row, most, high);
        reads(x.at(row, x.value(5, 7, 1)), "15/7 [0]");
        reads(x.at(row, x.value(0, 7, 1)), "0/1 [0]");
        int other = x.row();
        int zero = x.value(0, 1, 1);
        int below = x.over(x.value(1, 1, 0), ten(500, 0));
        int place = x.times(ten(450, 0), x.value(1, 1, 1));
        x.corner(other, zero, below);
        x.corner(other, x.times(place, x.value(3, 1, 0)), x.times(below, x.value(2, 1, 0)));
        due("LONG", () -> x.at(other, x.value(1, 1, 1)), LONG);
        due("not long", () -> x.told(x.at(other, place), 2), 500);
        due("LONG where two long ones meet", () -> x.at(other, x.value(1, 7, 1)), LONG);
    }

    // ---- promise 15

    private void areas() {
        begin(15);
        int row = x.row();
        noSuch("no row", () -> x.area(1));
        noSuch("row -1", () -> x.area(-1));
        due("no corner", () -> x.area(row), OUTSIDE);
        x.corner(row, x.value(1, 2, 1), x.value(3, 1, 1));
        due("one corner", () -> x.area(row), OUTSIDE);
        x.corner(row, x.value(5, 2, 1), x.value(-1, 1, 1));
        reads(x.area(row), "2/1 [2]");
        x.corner(row, x.value(4, 1, 1), x.value(-5, 3, 1));
        reads(x.area(row), "0/1 [2]");
        x.corner(row, x.value(9, 2, 1), x.value(0, 3, 1));
        reads(x.area(row), "-5/12 [2]");
        int high = x.row();
        int first = x.value(1, 1, 3);
        int second = x.value(2, 1, 3);
        int tall = x.value(1, 1, 4);
        x.corner(high, first, tall);
        due("OUTSIDE before UNLIKE", () -> x.area(high), OUTSIDE);
        x.corner(high, second, tall);
        due("unit 7", () -> x.area(high), UNLIKE);
        int low = x.row();
        x.corner(low, first, x.value(1, 1, -3));
        fill();
        due("OUTSIDE before FULL", () -> x.area(low), OUTSIDE);
        due("UNLIKE before FULL", () -> x.area(high), UNLIKE);
        due("FULL", () -> x.area(row), FULL);
    }

    private void areasLong() {
        begin(15);
        int row = x.row();
        int wide = ten(450, 1);
        int tall = ten(449, 1);
        x.corner(row, x.value(0, 1, 1), tall);
        x.corner(row, wide, tall);
        due("900 digits", () -> x.told(x.area(row), 1), 900);
        x.corner(row, x.times(wide, x.value(10, 1, 0)), x.times(tall, x.value(10, 1, 0)));
        due("901 digits", () -> x.area(row), LONG);
        due("901 digits on the way, 0 in the end", () -> x.area(thereAndBack(wide, tall, 10)), LONG);
        reads(x.area(thereAndBack(wide, tall, 9)), "0/1 [2]");
    }

    /** A row that is so many times wide at a height, then as wide as far below 0. */
    private int thereAndBack(int wide, int tall, int many) {
        int row = x.row();
        int deep = x.times(tall, x.value(-1, 1, 0));
        int turn = x.times(wide, x.value(many, 1, 0));
        int behind = x.add(turn, x.value(1, 1, 1), false);
        x.corner(row, x.value(0, 1, 1), tall);
        x.corner(row, turn, tall);
        x.corner(row, behind, deep);
        x.corner(row, x.add(behind, turn, false), deep);
        return row;
    }

    // ---- promise 16

    private void weights() {
        begin(16);
        outOfBounds("0", () -> x.weight(0));
        outOfBounds("-1", () -> x.weight(-1));
        outOfBounds("1000000001", () -> x.weight(1000000001));
        due("1", () -> x.weight(1), 1);
        due("1000000000", () -> x.weight(1000000000), 2);
        for (int i = 3; i <= 12; i++) {
            due("more", () -> x.weight(5), i);
        }
        due("13th", () -> x.weight(5), FULL);
        outOfBounds("ahead of FULL", () -> x.weight(0));
        due("there are", () -> x.noWeights(), 12);
    }

    // ---- promise 17

    private void noWeights() {
        begin(17);
        x.weight(4);
        x.weight(5);
        x.value(1, 1, 0);
        due("there were", () -> x.noWeights(), 2);
        due("none", () -> x.noWeights(), 0);
        noSuch("share", () -> x.share(1, 0));
        due("from the first one on", () -> x.weight(7), 1);
        due("its share", () -> x.share(10, 0), 10);
        due("values stay", () -> x.clear(), 1);
    }

    // ---- promise 18

    private void shares() {
        begin(18);
        noSuch("no weights", () -> x.share(0, 0));
        x.weight(1);
        x.weight(2);
        x.weight(1);
        x.weight(3);
        shared(0, 0, 0, 0, 0);
        shared(7, 1, 2, 1, 3);
        // 10/7, 20/7, 10/7, 30/7: cut off 3, 6, 3 and 2 sevenths, two units are left.
        shared(10, 2, 3, 1, 4);
        // 1/7, 2/7, 1/7, 3/7
        shared(1, 0, 0, 0, 1);
        shared(2, 0, 1, 0, 1);
        noSuch("share -1", () -> x.share(1, -1));
        noSuch("share 4", () -> x.share(1, 4));
        noSuch("ahead of the whole", () -> x.share(-1, 4));
        outOfBounds("-1 units", () -> x.share(-1, 0));
        outOfBounds("1000000000001 units", () -> x.share(1000000000001L, 0));
        due("1000000000000 units", () -> x.share(1000000000000L, 3), 428571428572L);
        due("the first one's of them", () -> x.share(1000000000000L, 0), 142857142857L);
    }

    private void shared(long whole, long... parts) {
        for (int k = 0; k < parts.length; k++) {
            int number = k;
            due("share(" + whole + ", " + k + ")", () -> x.share(whole, number), parts[k]);
        }
    }

    private void sharesOfMuch() {
        begin(18);
        for (int i = 0; i < 12; i++) {
            x.weight(1000000000 - (i == 11 ? 1 : 0));
        }
        // The products with what is left over pass a long here.
        long whole = 11999999998L;
        for (int k = 0; k < 11; k++) {
            int number = k;
            due("of nearly the sum", () -> x.share(whole, number), k < 10 ? 1000000000 : 999999999);
        }
        due("the last one's", () -> x.share(whole, 11), 999999999);
        long sum = 0;
        for (int k = 0; k < 12; k++) {
            sum += x.share(1000000000000L, k);
        }
        long all = sum;
        due("all together", () -> all, 1000000000000L);
    }
}
