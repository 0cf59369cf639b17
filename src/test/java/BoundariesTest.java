/** Each sentence of the promises that names a boundary: what is still taken, what is not, and what stays then. */
public final class BoundariesTest {
    private static final int UNLIKE = MetreFractions.UNLIKE;
    private static final int FULL = MetreFractions.FULL;
    private static final int LONG = MetreFractions.LONG;
    private static final int OUTSIDE = MetreFractions.OUTSIDE;
    private static final String NO_SUCH = Cases.NO_SUCH;
    private static final String BY_NOTHING = Cases.BY_NOTHING;
    private static final String OUT_OF_BOUNDS = Cases.OUT_OF_BOUNDS;

    private final Cases cases = new Cases();

    public static void main(String[] args) {
        BoundariesTest test = new BoundariesTest();
        test.newObjectHasNothing();
        test.newObjectBeginsAtNought();
        test.valueByNought();
        test.addOfUnits();
        test.timesOfOne();
        test.overByNought();
        test.orderByAHair();
        test.orderUnlike();
        test.roundRulesAndSteps();
        test.roundTies();
        test.roundNearTies();
        test.prismUnits();
        test.toldWhats();
        test.toldDigits();
        test.digitPlaces();
        test.digitParts();
        test.clearings();
        test.clearMakesRoom();
        test.rowsBesideValues();
        test.cornerFirstOfThese();
        test.cornerValues();
        test.atFirstOfThese();
        test.atCorners();
        test.areaOfFewCorners();
        test.areaBelowNought();
        test.areaOnTheWay();
        test.weightsAsTheyCome();
        test.noWeights();
        test.shareBounds();
        test.cases.end("BoundariesTest");
    }

    // ---- promise 1

    private void newObjectHasNothing() {
        cases.sentence("promise 1, no values, rows, weights");
        cases.refused("add", States::nothing, (x, v) -> x.add(0, 0, false), NO_SUCH);
        cases.refused("times", States::nothing, (x, v) -> x.times(0, 0), NO_SUCH);
        cases.refused("over", States::nothing, (x, v) -> x.over(0, 0), NO_SUCH);
        cases.refused("order", States::nothing, (x, v) -> x.order(0, 0), NO_SUCH);
        cases.refused("round", States::nothing, (x, v) -> x.round(0, 0, 1), NO_SUCH);
        cases.refused("prism", States::nothing, (x, v) -> x.prism(0, 0, 0, 0), NO_SUCH);
        cases.refused("told", States::nothing, (x, v) -> x.told(0, 0), NO_SUCH);
        cases.refused("digit", States::nothing, (x, v) -> x.digit(0, 0, 0), NO_SUCH);
        cases.refused("corner", States::nothing, (x, v) -> x.corner(0, 0, 0), NO_SUCH);
        cases.refused("at", States::nothing, (x, v) -> x.at(0, 0), NO_SUCH);
        cases.refused("area", States::nothing, (x, v) -> x.area(0), NO_SUCH);
        cases.refused("share", States::nothing, (x, v) -> x.share(0, 0), NO_SUCH);
    }

    private void newObjectBeginsAtNought() {
        cases.sentence("promise 1, as they come");
        cases.taken("clear", States::nothing, (x, v) -> x.clear(), 0);
        cases.taken("noWeights", States::nothing, (x, v) -> x.noWeights(), 0);
        cases.taken("value", States::nothing, (x, v) -> x.value(1, 1, 1), 0);
        cases.taken("row", States::nothing, (x, v) -> x.row(), 0);
        cases.taken("weight", States::nothing, (x, v) -> x.weight(1), 1);
    }

    // ---- promise 2

    private void valueByNought() {
        cases.sentence("promise 2, ArithmeticException");
        for (long above : new long[] {0, 1, -1, Long.MIN_VALUE, Long.MAX_VALUE}) {
            cases.refused(above + " by 0", States::some, (x, v) -> x.value(above, 0, 1), BY_NOTHING);
            cases.refused(above + " by 0, no unit", States::some, (x, v) -> x.value(above, 0, -7), BY_NOTHING);
        }
        cases.made("5 by 1", States::some, (x, v) -> x.value(5, 1, 1), "5/1 [1]");
        cases.made("5 by -1", States::some, (x, v) -> x.value(5, -1, 1), "-5/1 [1]");
    }

    // ---- promise 3

    private void addOfUnits() {
        cases.sentence("promise 3, their units must be the same");
        for (int a = 0; a < 13; a++) {
            int own = a;
            String unit = "unit " + (a - 6);
            cases.made(unit, States::units, (x, v) -> x.add(v[own], v[own], false), "4/3 [" + (a - 6) + "]");
            cases.made(unit + ", less", States::units, (x, v) -> x.add(v[own], v[own], true), "0/1 [" + (a - 6) + "]");
            int next = a == 12 ? 11 : a + 1;
            cases.refused(unit + " and the next", States::units, (x, v) -> x.add(v[own], v[next], false), UNLIKE);
            cases.refused(unit + " less the next", States::units, (x, v) -> x.add(v[own], v[next], true), UNLIKE);
            cases.refused(unit + " and its opposite", States::units,
                (x, v) -> x.add(v[own], v[own == 6 ? 0 : 12 - own], false), UNLIKE);
        }
        cases.refused("nothing of another unit", States::units, (x, v) -> x.add(v[6], v[13], false), UNLIKE);
        cases.refused("nothing less nothing of another unit", States::some, (x, v) -> x.add(v[0], v[5], true), UNLIKE);
    }

    // ---- promise 4

    private void timesOfOne() {
        cases.sentence("promise 4, a times b");
        cases.made("a value times itself", States::some, (x, v) -> x.times(v[4], v[4]), "25/16 [2]");
        cases.made("a third power", States::some, (x, v) -> x.times(v[3], x.times(v[3], v[3])), "343/27 [6]");
        cases.refused("a fourth power", States::some, (x, v) -> x.times(v[3], v[7]), UNLIKE);
        cases.made("nothing has its unit", States::some, (x, v) -> x.times(v[0], v[5]), "0/1 [1]");
    }

    // ---- promise 5

    private void overByNought() {
        cases.sentence("promise 5, ArithmeticException");
        cases.refused("by nothing of the same unit", States::some, (x, v) -> x.over(v[1], v[0]), BY_NOTHING);
        cases.refused("by nothing, a number", States::some, (x, v) -> x.over(v[1], v[5]), BY_NOTHING);
        cases.refused("nothing by itself", States::some, (x, v) -> x.over(v[0], v[0]), BY_NOTHING);
        cases.refused("by nothing, unit 7", States::units, (x, v) -> x.over(v[0], v[13]), BY_NOTHING);
        cases.refused("by nothing, a long one", States::longs, (x, v) -> x.over(v[2], v[12]), BY_NOTHING);
        cases.made("by the least above 0", States::longs, (x, v) -> x.over(v[5], v[3]), "(900)/1 [0]");
        cases.made("nothing by something", States::some, (x, v) -> x.over(v[0], v[1]), "0/1 [0]");
    }

    // ---- promise 6

    private void orderByAHair() {
        cases.sentence("promise 6, -1 if a is less than b, 0 if they are the same, 1");
        cases.taken("1 and a hair more", States::hairs, (x, v) -> x.order(v[0], v[1]), -1);
        cases.taken("a hair more and 1", States::hairs, (x, v) -> x.order(v[1], v[0]), 1);
        cases.taken("1 and a hair less", States::hairs, (x, v) -> x.order(v[0], v[2]), 1);
        cases.taken("a hair less and more", States::hairs, (x, v) -> x.order(v[2], v[1]), -1);
        cases.taken("the same", States::hairs, (x, v) -> x.order(v[1], v[1]), 0);
        cases.taken("below 0", States::hairs, (x, v) -> x.order(States.minus(x, v[0]), States.minus(x, v[1])), 1);
        cases.taken("below 0, the same", States::hairs,
            (x, v) -> x.order(States.minus(x, v[1]), States.minus(x, v[1])), 0);
        cases.taken("the least above 0 and 0", States::longs, (x, v) -> x.order(v[3], v[12]), 1);
        cases.taken("0 and the least above 0", States::longs, (x, v) -> x.order(v[12], v[3]), -1);
        cases.taken("the two least", States::longs, (x, v) -> x.order(v[3], v[1]), -1);
        cases.taken("the lowest and 0", States::longs, (x, v) -> x.order(v[4], v[12]), -1);
        cases.taken("the highest and the lowest", States::longs, (x, v) -> x.order(v[2], v[4]), 1);
        cases.taken("0 and 0", States::longs, (x, v) -> x.order(v[12], v[12]), 0);
    }

    private void orderUnlike() {
        cases.sentence("promise 6, UNLIKE");
        for (int a = 0; a < 12; a++) {
            int own = a;
            cases.taken("the same unit", States::units, (x, v) -> x.order(v[own], v[own]), 0);
            cases.refused("the next unit", States::units, (x, v) -> x.order(v[own], v[own + 1]), UNLIKE);
            cases.refused("the unit before", States::units, (x, v) -> x.order(v[own + 1], v[own]), UNLIKE);
        }
        cases.refused("nothing and nothing of another unit", States::some, (x, v) -> x.order(v[0], v[5]), UNLIKE);
        cases.taken("when there are 200 values", States.full(States::some), (x, v) -> x.order(v[4], 0), -1);
    }

    // ---- promise 7

    private void roundRulesAndSteps() {
        cases.sentence("promise 7, the rule is not 0 .. 3, or steps are not 1 .. 1000000000");
        for (int rule : new int[] {-1, 4, Integer.MIN_VALUE, Integer.MAX_VALUE}) {
            cases.refused("rule " + rule, States::some, (x, v) -> x.round(v[1], rule, 1), OUT_OF_BOUNDS);
            cases.refused("rule " + rule + ", no steps", States::some, (x, v) -> x.round(v[1], rule, 0), OUT_OF_BOUNDS);
        }
        for (int steps : new int[] {0, -1, 1000000001, Integer.MIN_VALUE, Integer.MAX_VALUE}) {
            for (int rule = 0; rule < 4; rule++) {
                int own = rule;
                cases.refused(steps + " steps", States::some, (x, v) -> x.round(v[1], own, steps), OUT_OF_BOUNDS);
            }
        }
        String[] whole = {"2/1", "3/1", "2/1", "2/1"};
        String down = "2333333333/1000000000";
        String[] fine = {down, "1166666667/500000000", down, down};
        for (int rule = 0; rule < 4; rule++) {
            int own = rule;
            cases.made("rule " + rule + ", 1 step", States::some,
                (x, v) -> x.round(v[3], own, 1), whole[rule] + " [2]");
            cases.made("rule " + rule + ", 1000000000 steps", States::some,
                (x, v) -> x.round(v[3], own, 1000000000), fine[rule] + " [2]");
        }
    }

    /** A value's rounding by each of the four rules. */
    private void rounded(long above, long below, int steps, String... wanted) {
        for (int rule = 0; rule < 4; rule++) {
            int own = rule;
            cases.made(above + "/" + below + " by rule " + rule + " to " + steps,
                x -> new int[] {x.value(above, below, -2)},
                (x, v) -> x.round(v[0], own, steps), wanted[rule] + " [-2]");
        }
    }

    private void roundTies() {
        cases.sentence("promise 7, of two the one above, of two that with an even number of parts");
        rounded(1, 2, 1, "0/1", "1/1", "1/1", "0/1");
        rounded(-1, 2, 1, "-1/1", "0/1", "0/1", "0/1");
        rounded(3, 2, 1, "1/1", "2/1", "2/1", "2/1");
        rounded(-3, 2, 1, "-2/1", "-1/1", "-1/1", "-2/1");
        rounded(5, 2, 1, "2/1", "3/1", "3/1", "2/1");
        rounded(-5, 2, 1, "-3/1", "-2/1", "-2/1", "-2/1");
        rounded(1, 12, 6, "0/1", "1/6", "1/6", "0/1");
        rounded(-5, 12, 6, "-1/2", "-1/3", "-1/3", "-1/3");
        rounded(7, 12, 6, "1/2", "2/3", "2/3", "2/3");
        rounded(1, 2000000000, 1000000000, "0/1", "1/1000000000", "1/1000000000", "0/1");
        rounded(-3, 2000000000, 1000000000,
            "-1/500000000", "-1/1000000000", "-1/1000000000", "-1/500000000");
        rounded(1999999999, 2, 1, "999999999/1", "1000000000/1", "1000000000/1", "1000000000/1");
        rounded(-1999999999999999999L, 2, 1,
            "-1000000000000000000/1", "-999999999999999999/1", "-999999999999999999/1", "-1000000000000000000/1");
        cases.sentence("promise 7, a whole number of parts stays");
        rounded(0, 1, 1, "0/1", "0/1", "0/1", "0/1");
        rounded(-7, 1, 1, "-7/1", "-7/1", "-7/1", "-7/1");
        rounded(-7, 3, 3, "-7/3", "-7/3", "-7/3", "-7/3");
        rounded(5, 3, 999999999, "5/3", "5/3", "5/3", "5/3");
        rounded(Long.MIN_VALUE, 1, 1000000000, "-9223372036854775808/1", "-9223372036854775808/1",
            "-9223372036854775808/1", "-9223372036854775808/1");
    }

    private void roundNearTies() {
        cases.sentence("promise 7, to the nearest one");
        rounded(499999999, 1000000000, 1, "0/1", "1/1", "0/1", "0/1");
        rounded(500000001, 1000000000, 1, "0/1", "1/1", "1/1", "1/1");
        rounded(-499999999, 1000000000, 1, "-1/1", "0/1", "0/1", "0/1");
        rounded(-500000001, 1000000000, 1, "-1/1", "0/1", "-1/1", "-1/1");
        rounded(1, Long.MIN_VALUE, 1, "-1/1", "0/1", "0/1", "0/1");
        rounded(-1, Long.MIN_VALUE, 1, "0/1", "1/1", "0/1", "0/1");
        rounded(Long.MAX_VALUE, Long.MIN_VALUE, 1, "-1/1", "0/1", "-1/1", "-1/1");
        cases.sentence("promise 7, a hair from a tie");
        String[] more = {"0/1", "1/1", "1/1", "1/1"};
        String[] less = {"0/1", "1/1", "0/1", "0/1"};
        for (int rule = 0; rule < 4; rule++) {
            int own = rule;
            cases.made("a hair more, rule " + rule, States::halves,
                (x, v) -> x.round(v[0], own, 1), more[rule] + " [0]");
            cases.made("a hair less, rule " + rule, States::halves,
                (x, v) -> x.round(v[1], own, 1), less[rule] + " [0]");
        }
    }

    // ---- promise 8

    private void prismUnits() {
        cases.sentence("promise 8, the units of a, b and c the same");
        cases.made("the same", States::some, (x, v) -> x.prism(v[0], v[1], v[4], v[6]), "19/12 [1]");
        cases.made("one value four times", States::some, (x, v) -> x.prism(v[1], v[1], v[1], v[1]), "9/4 [2]");
        cases.refused("unlike a", States::some, (x, v) -> x.prism(v[3], v[1], v[4], v[6]), UNLIKE);
        cases.refused("unlike b", States::some, (x, v) -> x.prism(v[0], v[3], v[4], v[6]), UNLIKE);
        cases.refused("unlike c", States::some, (x, v) -> x.prism(v[0], v[1], v[3], v[6]), UNLIKE);
        cases.refused("unlike nothing", States::some, (x, v) -> x.prism(v[0], v[5], v[0], v[6]), UNLIKE);
        cases.refused("all three unlike", States::some, (x, v) -> x.prism(v[0], v[5], v[3], v[6]), UNLIKE);
        cases.made("a height below 0", States::some, (x, v) -> x.prism(v[6], v[6], v[6], v[4]), "-5/2 [1]");
        cases.made("of the lowest unit", States::some, (x, v) -> x.prism(v[7], v[7], v[7], v[8]), "1/1 [0]");
    }

    // ---- promise 9

    private void toldWhats() {
        cases.sentence("promise 9, what is none of these");
        for (int what : new int[] {-1, 4, 5, Integer.MIN_VALUE, Integer.MAX_VALUE}) {
            cases.refused("what " + what, States::some, (x, v) -> x.told(v[1], what), OUT_OF_BOUNDS);
            cases.refused("what " + what + ", no value", States::some, (x, v) -> x.told(9, what), NO_SUCH);
        }
        cases.taken("sign below 0", States::some, (x, v) -> x.told(v[4], 0), -1);
        cases.taken("sign 0", States::some, (x, v) -> x.told(v[0], 0), 0);
        cases.taken("sign above 0", States::some, (x, v) -> x.told(v[1], 0), 1);
        cases.taken("digits above", States::some, (x, v) -> x.told(v[2], 1), 4);
        cases.taken("digits below", States::some, (x, v) -> x.told(v[2], 2), 1);
        cases.taken("the highest unit", States::some, (x, v) -> x.told(v[7], 3), 6);
        cases.taken("the lowest unit", States::some, (x, v) -> x.told(v[8], 3), -6);
    }

    private void toldDigits() {
        cases.sentence("promise 9, how many digits it has");
        long ten = 1;
        for (int digits = 1; digits <= 18; digits++) {
            long least = ten;
            long most = ten * 10 - 1;
            cases.taken("the least", States::some, (x, v) -> x.told(x.value(-least, 1, 0), 1), digits);
            cases.taken("the most", States::some, (x, v) -> x.told(x.value(-most, 1, 0), 1), digits);
            cases.taken("the least below", States::some, (x, v) -> x.told(x.value(1, least, 0), 2), digits);
            cases.taken("the most below", States::some, (x, v) -> x.told(x.value(1, most, 0), 2), digits);
            ten *= 10;
        }
        cases.taken("19", States::some, (x, v) -> x.told(x.value(Long.MIN_VALUE, 1, 0), 1), 19);
        cases.taken("19 below", States::some, (x, v) -> x.told(x.value(1, Long.MIN_VALUE, 0), 2), 19);
        cases.taken("0 has one", States::some, (x, v) -> x.told(v[0], 1), 1);
        cases.taken("0 has one below", States::some, (x, v) -> x.told(v[0], 2), 1);
        cases.taken("900", States::longs, (x, v) -> x.told(v[2], 1), 900);
        cases.taken("900 without sign", States::longs, (x, v) -> x.told(v[4], 1), 900);
        cases.taken("900 below", States::longs, (x, v) -> x.told(v[3], 2), 900);
    }

    // ---- promise 10

    private void digitPlaces() {
        cases.sentence("promise 10, digit i, from the last one (0) on");
        cases.taken("the last", States::some, (x, v) -> x.digit(v[4], 0, 0), 5);
        cases.taken("the last below", States::some, (x, v) -> x.digit(v[4], 1, 0), 4);
        cases.taken("the first", States::some, (x, v) -> x.digit(v[2], 0, 3), 1);
        cases.refused("before the first", States::some, (x, v) -> x.digit(v[2], 0, 4), NO_SUCH);
        cases.refused("behind the last", States::some, (x, v) -> x.digit(v[2], 0, -1), NO_SUCH);
        cases.taken("0's only one", States::some, (x, v) -> x.digit(v[0], 0, 0), 0);
        cases.refused("0's second one", States::some, (x, v) -> x.digit(v[0], 0, 1), NO_SUCH);
        cases.refused("a second one of 1 below", States::some, (x, v) -> x.digit(v[0], 1, 1), NO_SUCH);
        cases.taken("the 900th", States::longs, (x, v) -> x.digit(v[0], 0, 899), 1);
        cases.taken("the 899th", States::longs, (x, v) -> x.digit(v[0], 0, 898), 0);
        cases.taken("the 900th of nines", States::longs, (x, v) -> x.digit(v[4], 0, 899), 9);
        cases.refused("the 901st", States::longs, (x, v) -> x.digit(v[0], 0, 900), NO_SUCH);
        cases.taken("the 900th below", States::longs, (x, v) -> x.digit(v[1], 1, 899), 1);
        cases.refused("the 901st below", States::longs, (x, v) -> x.digit(v[1], 1, 900), NO_SUCH);
        long long19 = 1234567890123456789L;
        for (int i = 0; i < 19; i++) {
            int place = i;
            long due = Long.toString(long19).charAt(18 - i) - '0';
            cases.taken("above " + i, States::some, (x, v) -> x.digit(x.value(-long19, 1, 0), 0, place), due);
            cases.taken("below " + i, States::some, (x, v) -> x.digit(x.value(-1, long19, 0), 1, place), due);
        }
    }

    private void digitParts() {
        cases.sentence("promise 10, another part");
        for (int part : new int[] {-1, 2, Integer.MIN_VALUE, Integer.MAX_VALUE}) {
            cases.refused("part " + part, States::some, (x, v) -> x.digit(v[1], part, 0), OUT_OF_BOUNDS);
            cases.refused("no digit there", States::some, (x, v) -> x.digit(v[1], part, 1), OUT_OF_BOUNDS);
            cases.refused("far off", States::some, (x, v) -> x.digit(v[1], part, Integer.MAX_VALUE), OUT_OF_BOUNDS);
            cases.refused("i below 0", States::some, (x, v) -> x.digit(v[1], part, -1), NO_SUCH);
            cases.refused("i far below 0", States::some, (x, v) -> x.digit(v[1], part, Integer.MIN_VALUE), NO_SUCH);
            cases.refused("no value", States::some, (x, v) -> x.digit(9, part, 0), NO_SUCH);
            cases.refused("no value, i below 0", States::some, (x, v) -> x.digit(-1, part, -1), NO_SUCH);
        }
    }

    // ---- promise 11

    private void clearings() {
        cases.sentence("promise 11, all values and rows go: how many values there were");
        cases.taken("none", States::nothing, (x, v) -> x.clear(), 0);
        cases.taken("rows alone", States.rowsAlone(8), (x, v) -> x.clear(), 0);
        cases.taken("weights alone", States.weights(12, 3), (x, v) -> x.clear(), 0);
        cases.taken("some", States::some, (x, v) -> x.clear(), 9);
        cases.taken("199", States.filled(States::some, 199), (x, v) -> x.clear(), 199);
        cases.taken("200", States.full(States::some), (x, v) -> x.clear(), 200);
        cases.taken("twice", States::some, (x, v) -> 100 * x.clear() + x.clear(), 900);
    }

    private void clearMakesRoom() {
        cases.sentence("promise 11, after it");
        cases.taken("a value from 0 on", States.full(States::some), (x, v) -> x.clear() + x.value(5, 1, 0), 200);
        cases.taken("a row from 0 on", States.rowsAlone(8), (x, v) -> x.clear() + x.row(), 0);
        cases.refused("no value is left", States::cleared, (x, v) -> x.told(0, 0), NO_SUCH);
        cases.refused("no row is left", States::cleared, (x, v) -> x.area(0), NO_SUCH);
        cases.taken("weights stay", States::cleared, (x, v) -> x.share(6, 0), 3);
        cases.taken("their number too", States::cleared, (x, v) -> x.weight(1), 4);
        cases.taken("a new row has no corners", States::cleared, (x, v) -> x.row() + x.area(0), OUTSIDE);
        cases.taken("nor units", States::cleared, (x, v) -> x.row() + x.value(1, 1, -6) + x.corner(0, 0, 0), 1);
    }

    // ---- promise 12

    private void rowsBesideValues() {
        cases.sentence("promise 12, a row without corners; FULL when there are 8");
        cases.taken("when there are 200 values", States.full(States::some), (x, v) -> x.row(), 3);
        cases.taken("when there are 12 weights", States.weights(12, 3), (x, v) -> x.row(), 0);
        cases.taken("the 8th", States.rowsAlone(7), (x, v) -> x.row(), 7);
        cases.refused("a 9th", States.rowsAlone(8), (x, v) -> x.row(), FULL);
        cases.taken("has no corners", States::some, (x, v) -> x.area(x.row()), OUTSIDE);
        cases.taken("takes a first corner", States::some, (x, v) -> x.corner(x.row(), v[7], v[8]), 1);
    }

    // ---- promise 13

    private void cornerFirstOfThese() {
        cases.sentence("promise 13, the first of these: UNLIKE; FULL; OUTSIDE");
        Cases.State full = States.corners(16);
        cases.refused("UNLIKE place before FULL", full, (x, v) -> x.corner(0, v[4], v[1]), UNLIKE);
        cases.refused("UNLIKE height before FULL", full, (x, v) -> x.corner(0, v[2], v[4]), UNLIKE);
        cases.refused("UNLIKE before FULL and OUTSIDE", full, (x, v) -> x.corner(0, v[0], v[4]), UNLIKE);
        cases.refused("FULL before OUTSIDE", full, (x, v) -> x.corner(0, v[0], v[1]), FULL);
        cases.refused("FULL, the last place again", full, (x, v) -> x.corner(0, v[3], v[1]), FULL);
        cases.refused("FULL, a place behind", full, (x, v) -> x.corner(0, v[2], v[1]), FULL);
        cases.refused("UNLIKE before OUTSIDE", States::some, (x, v) -> x.corner(0, v[0], v[3]), UNLIKE);
        cases.refused("OUTSIDE, the last place", States.corners(15), (x, v) -> x.corner(0, v[5], v[1]), OUTSIDE);
        cases.taken("the place behind it", States.corners(15), (x, v) -> x.corner(0, v[3], v[1]), 16);
        cases.refused("OUTSIDE, the first place", States.corners(15), (x, v) -> x.corner(0, v[0], v[1]), OUTSIDE);
        cases.refused("OUTSIDE, between two", States::hairRow, (x, v) -> x.corner(0, v[5], v[0]), OUTSIDE);
    }

    private void cornerValues() {
        cases.sentence("promise 13, a corner of a row");
        Cases.State full = States.full(States::some);
        cases.taken("when there are 200 values", full, (x, v) -> x.corner(0, v[2], v[1]), 3);
        cases.taken("a first one", States::some, (x, v) -> x.corner(2, v[0], v[0]), 1);
        cases.taken("of units that have none together", States::some, (x, v) -> x.corner(2, v[7], v[7]), 1);
        cases.taken("of the lowest units", States::some, (x, v) -> x.corner(2, v[8], v[8]), 1);
        cases.taken("a height of nothing", States::some, (x, v) -> x.corner(0, v[2], v[0]), 3);
        cases.refused("no such row", States::some, (x, v) -> x.corner(3, v[2], v[1]), NO_SUCH);
        cases.refused("no such row nor value", States::some, (x, v) -> x.corner(3, 9, 9), NO_SUCH);
        cases.taken("below 0", States::some, (x, v) -> x.corner(2, v[4], v[4]), 1);
    }

    // ---- promise 14

    private void atFirstOfThese() {
        cases.sentence("promise 14, OUTSIDE (asked behind UNLIKE, before FULL)");
        Cases.State full = States.full(States::some);
        cases.refused("UNLIKE", States::some, (x, v) -> x.at(0, v[3]), UNLIKE);
        cases.refused("UNLIKE before OUTSIDE", States::some, (x, v) -> x.at(1, v[5]), UNLIKE);
        cases.refused("UNLIKE before FULL", full, (x, v) -> x.at(0, v[5]), UNLIKE);
        cases.refused("OUTSIDE before the first, before FULL", full, (x, v) -> x.at(0, v[4]), OUTSIDE);
        cases.refused("OUTSIDE behind the last, before FULL", full, (x, v) -> x.at(0, v[2]), OUTSIDE);
        cases.refused("OUTSIDE without corners, before FULL", full, (x, v) -> x.at(2, v[0]), OUTSIDE);
        cases.refused("OUTSIDE without corners, of any unit", States::some, (x, v) -> x.at(2, v[7]), OUTSIDE);
        cases.refused("FULL at the first", full, (x, v) -> x.at(0, v[0]), FULL);
        cases.refused("FULL at the last", full, (x, v) -> x.at(0, v[1]), FULL);
        cases.refused("FULL at the only one", full, (x, v) -> x.at(1, v[1]), FULL);
        cases.refused("before the first", States::some, (x, v) -> x.at(0, v[4]), OUTSIDE);
        cases.refused("behind the last", States::some, (x, v) -> x.at(0, v[2]), OUTSIDE);
        cases.refused("no such row", States::some, (x, v) -> x.at(3, v[1]), NO_SUCH);
        cases.refused("no such row nor value", States::some, (x, v) -> x.at(3, 9), NO_SUCH);
    }

    private void atCorners() {
        cases.sentence("promise 14, the height of a row at a value's place");
        cases.made("at the first", States::zigzag, (x, v) -> x.at(0, v[0]), "-5/1 [-6]");
        cases.made("between the first two", States::zigzag, (x, v) -> x.at(0, v[3]), "0/1 [-6]");
        cases.made("at the second", States::zigzag, (x, v) -> x.at(0, v[1]), "5/1 [-6]");
        cases.made("between the last two", States::zigzag, (x, v) -> x.at(0, v[4]), "13/3 [-6]");
        cases.made("at the last", States::zigzag, (x, v) -> x.at(0, v[2]), "3/1 [-6]");
        cases.made("at the only one", States::some, (x, v) -> x.at(1, v[1]), "7/3 [2]");
    }

    // ---- promise 15

    private void areaOfFewCorners() {
        cases.sentence("promise 15, with fewer than two corners OUTSIDE (before all else)");
        Cases.State full = States.full(States::some);
        cases.refused("none", States::some, (x, v) -> x.area(2), OUTSIDE);
        cases.refused("one", States::some, (x, v) -> x.area(1), OUTSIDE);
        cases.made("two", States::some, (x, v) -> x.area(0), "3/16 [2]");
        cases.refused("none, before FULL", full, (x, v) -> x.area(2), OUTSIDE);
        cases.refused("one, before FULL", full, (x, v) -> x.area(1), OUTSIDE);
        cases.refused("two, FULL", full, (x, v) -> x.area(0), FULL);
        cases.refused("one, before UNLIKE", States.lineOf(1, 6, 6), (x, v) -> x.area(0), OUTSIDE);
        cases.refused("one, before UNLIKE and FULL", States.full(States.lineOf(1, 6, 6)), (x, v) -> x.area(0), OUTSIDE);
        cases.refused("two, UNLIKE", States.lineOf(2, 6, 6), (x, v) -> x.area(0), UNLIKE);
        cases.refused("no such row", States::some, (x, v) -> x.area(3), NO_SUCH);
    }

    private void areaBelowNought() {
        cases.sentence("promise 15, below 0 counted below 0");
        cases.made("as much below as above", States::crossing, (x, v) -> x.area(0), "0/1 [2]");
        cases.made("all below", States.block(0, 0, -4), (x, v) -> x.area(0), "-4/1 [0]");
        cases.made("at 0", States.block(0, 0, 0), (x, v) -> x.area(0), "0/1 [0]");
        cases.made("both", States::zigzag, (x, v) -> x.area(0), "12/1 [-5]");
    }

    private void areaOnTheWay() {
        cases.sentence("promise 15, LONG also when the area from the first corner up to one on the way would be");
        cases.made("900 digits on the way", States.there(450, 449, 9), (x, v) -> x.area(0), "0/1 [0]");
        cases.refused("901 digits on the way", States.there(450, 449, 10), (x, v) -> x.area(0), LONG);
        cases.refused("901 digits on the way, below 0", States.there(450, 449, -10), (x, v) -> x.area(0), LONG);
        cases.made("900 digits below on the way", States.there(-450, -449, 1), (x, v) -> x.area(0), "0/1 [0]");
        cases.refused("901 digits below on the way", States.there(-450, -450, 1), (x, v) -> x.area(0), LONG);
        cases.made("long between two corners alone", States::steep, (x, v) -> x.area(0), "0/1 [0]");
        for (int way = 1; way <= 4; way++) {
            cases.made("nearly LONG up to corner " + way, States.onTheWay(way, 450), (x, v) -> x.area(0), "0/1 [0]");
            cases.refused("LONG up to corner " + way, States.onTheWay(way, 451), (x, v) -> x.area(0), LONG);
            cases.refused("FULL first", States.full(States.onTheWay(way, 451)), (x, v) -> x.area(0), FULL);
        }
    }

    // ---- promise 16

    private void weightsAsTheyCome() {
        cases.sentence("promise 16, numbered 0, 1, .. as they come: how many there are");
        cases.taken("the 4th", States::some, (x, v) -> x.weight(1000000000), 4);
        cases.taken("its number", States::some, (x, v) -> x.weight(6) * 0 + x.share(12, 3), 6);
        cases.taken("when there are 200 values", States.full(States::some), (x, v) -> x.weight(1), 4);
        cases.taken("the 12th", States.weights(11, 1), (x, v) -> x.weight(1000000000), 12);
        cases.refused("FULL when there are 12", States.weights(12, 1), (x, v) -> x.weight(1000000000), FULL);
        cases.refused("too little, before FULL", States.weights(12, 1), (x, v) -> x.weight(0), OUT_OF_BOUNDS);
        cases.refused("too much, before FULL", States.weights(12, 1), (x, v) -> x.weight(1000000001), OUT_OF_BOUNDS);
    }

    // ---- promise 17

    private void noWeights() {
        cases.sentence("promise 17, no weights: how many there were");
        for (int count = 0; count <= 12; count++) {
            cases.taken(count + " of them", States.weights(count, 7), (x, v) -> x.noWeights(), count);
        }
        cases.taken("values and rows stay", States::some, (x, v) -> x.noWeights(), 3);
        cases.taken("twice", States::some, (x, v) -> 100 * x.noWeights() + x.noWeights(), 300);
        cases.taken("room again", States.weights(12, 7), (x, v) -> x.noWeights() + x.weight(5), 13);
        cases.taken("from number 0 on", States.weights(12, 7),
            (x, v) -> x.noWeights() + x.weight(5) + x.share(9, 0), 22);
    }

    // ---- promise 18

    private void shareBounds() {
        cases.sentence("promise 18, a whole number of units (0 .. 1000000000000)");
        cases.taken("0", States::some, (x, v) -> x.share(0, 0), 0);
        cases.taken("1", States::some, (x, v) -> x.share(1, 0), 1);
        cases.taken("999999999999", States::some, (x, v) -> x.share(999999999999L, 0), 500000000000L);
        cases.taken("1000000000000", States::some, (x, v) -> x.share(1000000000000L, 0), 500000000000L);
        for (long whole : new long[] {-1, 1000000000001L, Long.MIN_VALUE, Long.MAX_VALUE}) {
            cases.refused("" + whole, States::some, (x, v) -> x.share(whole, 0), OUT_OF_BOUNDS);
            cases.refused(whole + ", the last weight's", States::some, (x, v) -> x.share(whole, 2), OUT_OF_BOUNDS);
            cases.refused(whole + ", no weight's", States::some, (x, v) -> x.share(whole, 3), NO_SUCH);
            cases.refused(whole + ", weight -1's", States::some, (x, v) -> x.share(whole, -1), NO_SUCH);
            cases.refused(whole + ", without weights", States::nothing, (x, v) -> x.share(whole, 0), NO_SUCH);
        }
        cases.sentence("promise 18, the k-th weight's share");
        cases.taken("the last of three", States::some, (x, v) -> x.share(6, 2), 2);
        cases.refused("a fourth", States::some, (x, v) -> x.share(6, 3), NO_SUCH);
        cases.taken("the last of twelve", States.weights(12, 7), (x, v) -> x.share(23, 11), 1);
        cases.refused("a 13th", States.weights(12, 7), (x, v) -> x.share(23, 12), NO_SUCH);
        cases.refused("a first of none", States::nothing, (x, v) -> x.share(0, 0), NO_SUCH);
    }
}
