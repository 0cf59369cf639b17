import java.util.LinkedHashMap;
import java.util.Map;

/** Each sentence of the document's "Terms" that names a boundary: what is still taken, what is not. */
public final class TermsTest {
    private static final int UNLIKE = MetreFractions.UNLIKE;
    private static final int FULL = MetreFractions.FULL;
    private static final int LONG = MetreFractions.LONG;
    private static final int OUTSIDE = MetreFractions.OUTSIDE;
    private static final String NO_SUCH = Cases.NO_SUCH;
    private static final String BY_NOTHING = Cases.BY_NOTHING;
    private static final String OUT_OF_BOUNDS = Cases.OUT_OF_BOUNDS;
    private static final int[] NO_NUMBERS = {-1, Integer.MIN_VALUE, Integer.MAX_VALUE};

    private final Cases cases = new Cases();

    public static void main(String[] args) {
        TermsTest test = new TermsTest();
        test.callsOfAnObject();
        test.valuesAtMost();
        test.nothingIsNoughtByOne();
        test.belowIsAboveNought();
        test.unitsOfProducts();
        test.unitsOfQuotients();
        test.unitsOfPrismsAndAreas();
        test.longSums();
        test.longProducts();
        test.longQuotients();
        test.longRoundings();
        test.longPrisms();
        test.longHeights();
        test.longAreas();
        test.theFirstOfThese();
        test.theFirstOfTheseWhenFull();
        test.rowsAndCorners();
        test.placesRise();
        test.rowsEnd();
        test.weightsAtMost();
        test.sharesCutOff();
        test.exceptionsAheadOfAnswers();
        test.noSuchValue();
        test.noSuchRowWeightDigit();
        test.theOneNamedFirst();
        test.cases.end("TermsTest");
    }

    /** A call of each kind that makes a value, in the state some. */
    private static Map<String, Cases.Call> makers() {
        Map<String, Cases.Call> makers = new LinkedHashMap<>();
        makers.put("value", (x, v) -> x.value(-4, 6, 3));
        makers.put("add", (x, v) -> x.add(v[1], v[4], false));
        makers.put("add, less", (x, v) -> x.add(v[1], v[4], true));
        makers.put("times", (x, v) -> x.times(v[1], v[4]));
        makers.put("over", (x, v) -> x.over(v[1], v[3]));
        makers.put("round", (x, v) -> x.round(v[4], 3, 2));
        makers.put("prism", (x, v) -> x.prism(v[0], v[1], v[4], v[3]));
        makers.put("at", (x, v) -> x.at(0, v[1]));
        makers.put("area", (x, v) -> x.area(0));
        return makers;
    }

    private void callsOfAnObject() {
        cases.sentence("at most 512 calls");
        cases.run("the last one", x -> {
            while (x.callsLeft() > 60) {
                x.value(x.callsLeft(), 3, 1);
                x.clear();
            }
            int[] v = States.longs(x);
            while (x.callsLeft() > 1) {
                x.order(v[2], v[0]);
            }
            x.add(v[2], v[5], true);
            return v;
        });
    }

    private void valuesAtMost() {
        cases.sentence("VALUES are numbered 0, 1, .. as they come, 200 at most");
        cases.taken("the first one", States::nothing, (x, v) -> x.value(1, 1, 0), 0);
        makers().forEach((what, call) -> {
            cases.taken(what + ", the next one", States::some, call, 9);
            cases.taken(what + ", the 199th", States.filled(States::some, 198), call, 198);
            cases.taken(what + ", the 200th", States.filled(States::some, 199), call, 199);
            cases.refused(what + ", the 201st", States.full(States::some), call, FULL);
        });
        cases.taken("the last one is there", States.full(States::some), (x, v) -> x.digit(199, 0, 2), 1);
        cases.refused("no one behind it", States.full(States::some), (x, v) -> x.told(200, 0), NO_SUCH);
        cases.taken("clear makes room", States.full(States::some), (x, v) -> x.clear() + x.value(1, 1, 0), 200);
    }

    private void nothingIsNoughtByOne() {
        cases.sentence("nothing is 0 / 1; 0 has one digit");
        cases.made("value", States::some, (x, v) -> x.value(0, -77, 6), "0/1 [6]");
        cases.made("value by the lowest", States::some, (x, v) -> x.value(0, Long.MIN_VALUE, 0), "0/1 [0]");
        cases.made("add", States::some, (x, v) -> x.add(v[4], v[4], true), "0/1 [1]");
        cases.made("add of nothing", States::some, (x, v) -> x.add(v[0], v[0], false), "0/1 [1]");
        cases.made("times", States::some, (x, v) -> x.times(v[4], v[0]), "0/1 [2]");
        cases.made("over", States::some, (x, v) -> x.over(v[0], v[4]), "0/1 [0]");
        cases.made("round", States::some, (x, v) -> x.round(v[4], 1, 1), "-1/1 [1]");
        cases.made("round to nothing", States::some, (x, v) -> x.round(x.over(v[4], v[2]), 1, 7), "0/1 [0]");
        cases.made("prism", States::some, (x, v) -> x.prism(v[0], v[0], v[0], v[4]), "0/1 [2]");
        cases.made("at", States::crossing, (x, v) -> x.at(0, v[3]), "0/1 [1]");
        cases.made("area", States::crossing, (x, v) -> x.area(0), "0/1 [2]");
    }

    private void belowIsAboveNought() {
        cases.sentence("ABOVE / BELOW in lowest terms, BELOW above 0");
        long least = Long.MIN_VALUE;
        long most = Long.MAX_VALUE;
        cases.made("both below 0", States::some, (x, v) -> x.value(-6, -4, 1), "3/2 [1]");
        cases.made("below below 0", States::some, (x, v) -> x.value(6, -4, 1), "-3/2 [1]");
        cases.made("least by -1", States::some, (x, v) -> x.value(least, -1, 0), "9223372036854775808/1 [0]");
        cases.made("least by 1", States::some, (x, v) -> x.value(least, 1, 0), "-9223372036854775808/1 [0]");
        cases.made("1 by least", States::some, (x, v) -> x.value(1, least, 0), "-1/9223372036854775808 [0]");
        cases.made("-1 by least", States::some, (x, v) -> x.value(-1, least, 0), "1/9223372036854775808 [0]");
        cases.made("least by least", States::some, (x, v) -> x.value(least, least, 0), "1/1 [0]");
        cases.made("least by 2 least", States::some, (x, v) -> x.value(least / 2, least, 0), "1/2 [0]");
        cases.made("most by least", States::some, (x, v) -> x.value(most, least, 0),
            "-9223372036854775807/9223372036854775808 [0]");
        cases.made("least by most", States::some, (x, v) -> x.value(least, most, 0),
            "-9223372036854775808/9223372036854775807 [0]");
        cases.made("most by -most", States::some, (x, v) -> x.value(most, -most, 0), "-1/1 [0]");
        cases.made("by a number below 0", States::some, (x, v) -> x.over(v[1], v[4]), "-6/5 [0]");
        cases.made("both below 0, by over", States::some, (x, v) -> x.over(v[4], v[4]), "1/1 [0]");
    }

    private void unitsOfProducts() {
        cases.sentence("a UNIT -6 .. 6, of times");
        for (int unit = -6; unit <= 6; unit++) {
            int other = Math.abs(6 - Math.abs(unit)) * (unit < 0 ? -1 : 1);
            int a = unit + 6;
            int b = other + 6;
            cases.made(unit + " and " + other, States::units, (x, v) -> x.times(v[a], v[b]),
                "4/9 [" + (unit + other) + "]");
            if (unit != 0) {
                int c = b + (unit < 0 ? -1 : 1);
                cases.refused(unit + " and one more", States::units, (x, v) -> x.times(v[a], v[c]), UNLIKE);
                cases.refused("one more and " + unit, States::units, (x, v) -> x.times(v[c], v[a]), UNLIKE);
            }
        }
        cases.made("6 and -6", States::units, (x, v) -> x.times(v[12], v[0]), "4/9 [0]");
        cases.refused("6 and 6", States::units, (x, v) -> x.times(v[12], v[12]), UNLIKE);
        cases.refused("-6 and -6", States::units, (x, v) -> x.times(v[0], v[0]), UNLIKE);
        cases.refused("6 and nothing of 1", States::units, (x, v) -> x.times(v[12], v[13]), UNLIKE);
    }

    private void unitsOfQuotients() {
        cases.sentence("a UNIT -6 .. 6, of over");
        for (int unit = -6; unit <= 6; unit++) {
            int other = Math.abs(6 - Math.abs(unit)) * (unit < 0 ? 1 : -1);
            int a = unit + 6;
            int b = other + 6;
            cases.made(unit + " by " + other, States::units, (x, v) -> x.over(v[a], v[b]),
                "1/1 [" + (unit - other) + "]");
            if (unit != 0) {
                int c = b + (unit < 0 ? 1 : -1);
                cases.refused(unit + " by one more", States::units, (x, v) -> x.over(v[a], v[c]), UNLIKE);
            }
        }
        cases.made("6 by 6", States::units, (x, v) -> x.over(v[12], v[12]), "1/1 [0]");
        cases.made("-6 by -6", States::units, (x, v) -> x.over(v[0], v[0]), "1/1 [0]");
        cases.refused("6 by -6", States::units, (x, v) -> x.over(v[12], v[0]), UNLIKE);
        cases.refused("-6 by 6", States::units, (x, v) -> x.over(v[0], v[12]), UNLIKE);
    }

    private void unitsOfPrismsAndAreas() {
        cases.sentence("a UNIT -6 .. 6, of prism, area and value");
        int[][] edges = {{6, 0}, {1, 5}, {-6, 0}, {-1, -5}, {6, -6}, {-6, 6}};
        for (int[] edge : edges) {
            int a = edge[0] + 6;
            int h = edge[1] + 6;
            String units = edge[0] + " and " + edge[1];
            int unit = edge[0] + edge[1];
            cases.made("prism of " + units, States::units, (x, v) -> x.prism(v[a], v[a], v[a], v[h]),
                "4/9 [" + unit + "]");
            cases.made("area of " + units, States.lineOf(2, edge[0], edge[1]),
                (x, v) -> x.area(0), "6/1 [" + unit + "]");
        }
        int[][] beyond = {{6, 1}, {1, 6}, {2, 5}, {6, 6}, {-6, -1}, {-1, -6}, {-3, -4}, {-6, -6}};
        for (int[] edge : beyond) {
            int a = edge[0] + 6;
            int h = edge[1] + 6;
            String units = edge[0] + " and " + edge[1];
            cases.refused("prism of " + units, States::units, (x, v) -> x.prism(v[a], v[a], v[a], v[h]), UNLIKE);
            cases.refused("area of " + units, States.lineOf(2, edge[0], edge[1]), (x, v) -> x.area(0), UNLIKE);
        }
        for (int unit = -6; unit <= 6; unit++) {
            int own = unit;
            cases.made("value of " + unit, States::some, (x, v) -> x.value(1, 3, own), "1/3 [" + unit + "]");
        }
        for (int unit : new int[] {-7, 7, Integer.MIN_VALUE, Integer.MAX_VALUE}) {
            cases.refused("value of " + unit, States::some, (x, v) -> x.value(1, 3, unit), OUT_OF_BOUNDS);
        }
    }

    // ---- no more than 900 digits

    private void longSums() {
        cases.sentence("LONG, more than 900 digits above or below, of add");
        cases.made("900 nines less 1", States::longs, (x, v) -> x.add(v[2], v[5], true), "(900)/1 [0]");
        cases.refused("900 nines and 1", States::longs, (x, v) -> x.add(v[2], v[5], false), LONG);
        cases.made("less 900 nines and 1", States::longs, (x, v) -> x.add(v[4], v[5], false), "-(900)/1 [0]");
        cases.refused("less 900 nines, less 1", States::longs, (x, v) -> x.add(v[4], v[5], true), LONG);
        cases.refused("1 less what is below 0", States::longs, (x, v) -> x.add(v[5], v[4], true), LONG);
        cases.made("900 digits above and below", States::longs, (x, v) -> x.add(v[3], v[5], true), "-(900)/(900) [0]");
        cases.refused("901 above, 900 below", States::longs, (x, v) -> x.add(v[3], v[5], false), LONG);
        cases.made("900 below", States::longs, (x, v) -> x.add(v[1], v[8], false), "(900)/(900) [0]");
        cases.refused("901 below", States::longs, (x, v) -> x.add(v[1], v[6], false), LONG);
        cases.made("901 above but in lowest terms", States::longs, (x, v) -> x.add(v[9], v[9], false), "(900)/1 [0]");
        cases.made("longest ones that are gone", States::longs, (x, v) -> x.add(v[2], v[4], false), "0/1 [0]");
    }

    private void longProducts() {
        cases.sentence("LONG, more than 900 digits above or below, of times");
        cases.made("900 above", States::longs, (x, v) -> x.times(v[0], v[10]), "(900)/1 [0]");
        cases.refused("901 above", States::longs, (x, v) -> x.times(v[0], v[7]), LONG);
        cases.refused("901 above, below 0", States::longs, (x, v) -> x.times(v[4], v[7]), LONG);
        cases.made("900 above, below 0", States::longs, (x, v) -> x.times(v[4], v[5]), "-(900)/1 [0]");
        cases.made("900 below", States::longs, (x, v) -> x.times(v[1], v[8]), "1/(900) [0]");
        cases.refused("901 below", States::longs, (x, v) -> x.times(v[1], v[6]), LONG);
        cases.refused("1799 above", States::longs, (x, v) -> x.times(v[0], v[2]), LONG);
        cases.refused("1800 below", States::longs, (x, v) -> x.times(v[3], v[3]), LONG);
        cases.made("901 above but in lowest terms", States::longs, (x, v) -> x.times(v[9], v[11]), "(900)/1 [0]");
        cases.made("1 in lowest terms", States::longs, (x, v) -> x.times(v[0], v[1]), "1/1 [0]");
        cases.made("900 above and below", States::longs, (x, v) -> x.times(v[2], v[1]), "(900)/(900) [0]");
        cases.made("nothing", States::longs, (x, v) -> x.times(v[3], v[12]), "0/1 [0]");
    }

    private void longQuotients() {
        cases.sentence("LONG, more than 900 digits above or below, of over");
        cases.made("900 above", States::longs, (x, v) -> x.over(v[0], v[8]), "(900)/1 [0]");
        cases.refused("901 above", States::longs, (x, v) -> x.over(v[0], v[6]), LONG);
        cases.made("900 below", States::longs, (x, v) -> x.over(v[1], v[10]), "1/(900) [0]");
        cases.refused("901 below", States::longs, (x, v) -> x.over(v[1], v[7]), LONG);
        cases.made("900 above and below", States::longs, (x, v) -> x.over(v[4], v[0]), "-(900)/(900) [0]");
        cases.refused("1799 above", States::longs, (x, v) -> x.over(v[0], v[3]), LONG);
        cases.refused("1799 below", States::longs, (x, v) -> x.over(v[1], v[2]), LONG);
        cases.made("1 in lowest terms", States::longs, (x, v) -> x.over(v[3], v[3]), "1/1 [0]");
        cases.made("nothing", States::longs, (x, v) -> x.over(v[12], v[2]), "0/1 [0]");
    }

    private void longRoundings() {
        cases.sentence("LONG, more than 900 digits above or below, of round");
        String up = "(900)/17 [0]";
        String down = "-(900)/17 [0]";
        cases.made("to 29ths", States::toBeRounded, (x, v) -> x.round(v[0], 0, 29), "(900)/29 [0]");
        cases.refused("to 31sts", States::toBeRounded, (x, v) -> x.round(v[0], 0, 31), LONG);
        cases.made("to 30ths, in lowest terms", States::toBeRounded, (x, v) -> x.round(v[0], 0, 30), "(900)/3 [0]");
        cases.made("a whole one to many", States::toBeRounded, (x, v) -> x.round(v[5], 2, 1000000000), "(900)/1 [0]");
        cases.made("a little less, down", States::toBeRounded, (x, v) -> x.round(v[1], 0, 17), up);
        for (int rule = 1; rule <= 3; rule++) {
            int own = rule;
            cases.refused("a little less, rule " + rule, States::toBeRounded, (x, v) -> x.round(v[1], own, 17), LONG);
        }
        cases.made("below 0, up", States::toBeRounded, (x, v) -> x.round(v[2], 1, 17), down);
        for (int rule = 0; rule <= 3; rule += rule == 0 ? 2 : 1) {
            int own = rule;
            cases.refused("below 0, rule " + rule, States::toBeRounded, (x, v) -> x.round(v[2], own, 17), LONG);
        }
        for (int rule = 0; rule <= 3; rule += rule == 0 ? 2 : 1) {
            int own = rule;
            cases.made("more than half less, rule " + rule, States::toBeRounded,
                (x, v) -> x.round(v[3], own, 53), "(900)/53 [0]");
        }
        cases.refused("more than half less, up", States::toBeRounded, (x, v) -> x.round(v[3], 1, 53), LONG);
        cases.made("the least one, up", States::toBeRounded,
            (x, v) -> x.round(v[4], 1, 1000000000), "1/1000000000 [0]");
        cases.made("the least one, down", States::toBeRounded, (x, v) -> x.round(v[4], 0, 1000000000), "0/1 [0]");
    }

    private void longPrisms() {
        cases.sentence("LONG, more than 900 digits above or below, of prism");
        cases.made("900 nines", States::toBePrisms, (x, v) -> x.prism(v[0], v[1], v[2], v[3]), "(900)/1 [0]");
        cases.refused("and one", States::toBePrisms, (x, v) -> x.prism(v[0], v[1], v[4], v[3]), LONG);
        cases.refused("and one, from the other side", States::toBePrisms,
            (x, v) -> x.prism(v[4], v[1], v[0], v[3]), LONG);
        cases.refused("below 0", States::toBePrisms, (x, v) -> x.prism(v[0], v[1], v[4], v[5]), LONG);
        cases.made("900 below", States::toBePrisms, (x, v) -> x.prism(v[4], v[2], v[2], v[6]), "1/(900) [0]");
        cases.refused("901 below", States::toBePrisms, (x, v) -> x.prism(v[7], v[2], v[2], v[6]), LONG);
        cases.made("long on the way alone", States::toBePrisms, (x, v) -> x.prism(v[0], v[1], v[4], v[6]), "5/3 [0]");
        cases.made("long together, no height", States::toBePrisms,
            (x, v) -> x.prism(v[1], v[1], v[1], v[2]), "0/1 [0]");
    }

    private void longHeights() {
        cases.sentence("LONG, more than 900 digits above or below, of at");
        cases.made("at a corner", States::longLines, (x, v) -> x.at(0, v[1]), "(900)/1 [0]");
        cases.made("900 above", States::longLines, (x, v) -> x.at(0, v[2]), "(900)/17 [0]");
        cases.refused("901 above", States::longLines, (x, v) -> x.at(0, v[3]), LONG);
        cases.made("900 below", States::longLines, (x, v) -> x.at(1, v[4]), "1/(900) [0]");
        cases.refused("901 below", States::longLines, (x, v) -> x.at(1, v[5]), LONG);
        cases.made("901 above but in lowest terms", States::longLines, (x, v) -> x.at(2, v[4]), "(900)/1 [0]");
        cases.made("nothing", States::longLines, (x, v) -> x.at(0, v[0]), "0/1 [0]");
    }

    private void longAreas() {
        cases.sentence("LONG, more than 900 digits above or below, of area");
        cases.made("900 above", States.block(450, 449, 1), (x, v) -> x.area(0), "(900)/1 [0]");
        cases.refused("901 above", States.block(450, 450, 1), (x, v) -> x.area(0), LONG);
        cases.made("900 above, below 0", States.block(450, 449, -9), (x, v) -> x.area(0), "-(900)/1 [0]");
        cases.refused("901 above, below 0", States.block(450, 449, -10), (x, v) -> x.area(0), LONG);
        cases.made("900 below", States.block(-450, -449, 1), (x, v) -> x.area(0), "1/(900) [0]");
        cases.refused("901 below", States.block(-450, -450, 1), (x, v) -> x.area(0), LONG);
        cases.made("1800 below but in lowest terms", States.block(-899, 899, 7), (x, v) -> x.area(0), "7/1 [0]");
    }

    // ---- the first of these

    private void theFirstOfThese() {
        cases.sentence("the first of these: UNLIKE before LONG");
        cases.refused("add", States::manyFaults, (x, v) -> x.add(v[0], v[3], false), UNLIKE);
        cases.refused("times", States::manyFaults, (x, v) -> x.times(v[1], v[3]), UNLIKE);
        cases.refused("over", States::manyFaults, (x, v) -> x.over(v[1], v[5]), UNLIKE);
        cases.refused("prism of unlike ones", States::manyFaults, (x, v) -> x.prism(v[0], v[0], v[1], v[2]), UNLIKE);
        cases.refused("prism of unit 7", States::manyFaults, (x, v) -> x.prism(v[1], v[1], v[1], v[3]), UNLIKE);
        cases.refused("at", States::manyFaults, (x, v) -> x.at(0, v[3]), UNLIKE);
        cases.refused("area", States::manyFaults, (x, v) -> x.area(1), UNLIKE);
        cases.sentence("LONG alone");
        cases.refused("add", States::manyFaults, (x, v) -> x.add(v[0], v[2], false), LONG);
        cases.refused("times", States::manyFaults, (x, v) -> x.times(v[0], v[2]), LONG);
        cases.refused("over", States::manyFaults, (x, v) -> x.over(v[0], v[4]), LONG);
        cases.refused("round", States::manyFaults, (x, v) -> x.round(v[6], 0, 31), LONG);
        cases.refused("prism", States::manyFaults, (x, v) -> x.prism(v[0], v[0], v[0], v[2]), LONG);
        cases.refused("at", States::manyFaults, (x, v) -> x.at(0, v[7]), LONG);
        cases.refused("area", States::manyFaults, (x, v) -> x.area(2), LONG);
        cases.refused("area on the way", States::manyFaults, (x, v) -> x.area(3), LONG);
    }

    private void theFirstOfTheseWhenFull() {
        Cases.State full = States.full(States::manyFaults);
        cases.sentence("the first of these: UNLIKE before FULL");
        cases.refused("add", full, (x, v) -> x.add(v[0], v[3], false), UNLIKE);
        cases.refused("times", full, (x, v) -> x.times(v[1], v[3]), UNLIKE);
        cases.refused("over", full, (x, v) -> x.over(v[1], v[5]), UNLIKE);
        cases.refused("prism of unlike a", full, (x, v) -> x.prism(v[1], v[0], v[0], v[2]), UNLIKE);
        cases.refused("prism of unlike b", full, (x, v) -> x.prism(v[0], v[1], v[0], v[2]), UNLIKE);
        cases.refused("prism of unlike c", full, (x, v) -> x.prism(v[0], v[0], v[1], v[2]), UNLIKE);
        cases.refused("prism of unit 7", full, (x, v) -> x.prism(v[1], v[1], v[1], v[3]), UNLIKE);
        cases.refused("at", full, (x, v) -> x.at(0, v[3]), UNLIKE);
        cases.refused("area", full, (x, v) -> x.area(1), UNLIKE);
        cases.refused("order", full, (x, v) -> x.order(v[0], v[3]), UNLIKE);
        cases.sentence("the first of these: FULL before LONG");
        cases.refused("add", full, (x, v) -> x.add(v[0], v[2], false), FULL);
        cases.refused("times", full, (x, v) -> x.times(v[0], v[2]), FULL);
        cases.refused("over", full, (x, v) -> x.over(v[0], v[4]), FULL);
        cases.refused("round", full, (x, v) -> x.round(v[6], 0, 31), FULL);
        cases.refused("prism", full, (x, v) -> x.prism(v[0], v[0], v[0], v[2]), FULL);
        cases.refused("at", full, (x, v) -> x.at(0, v[7]), FULL);
        cases.refused("area", full, (x, v) -> x.area(2), FULL);
        cases.refused("area on the way", full, (x, v) -> x.area(3), FULL);
    }

    // ---- rows

    private void rowsAndCorners() {
        cases.sentence("ROWS are 0 .. 7, as they come");
        for (int row = 0; row < 8; row++) {
            cases.taken("row " + row, States.rows(row), (x, v) -> x.row(), row);
        }
        cases.refused("a ninth row", States.rows(8), (x, v) -> x.row(), FULL);
        cases.taken("the last row is there", States.rows(8), (x, v) -> x.corner(7, v[0], v[1]), 1);
        cases.refused("no row behind it", States.rows(8), (x, v) -> x.corner(8, v[0], v[1]), NO_SUCH);
        cases.sentence("each with up to 16 CORNERS");
        for (int count = 0; count < 16; count++) {
            cases.taken("corner " + count, States.corners(count), (x, v) -> x.corner(0, v[2], v[1]), count + 1);
        }
        cases.refused("a 17th corner", States.corners(16), (x, v) -> x.corner(0, v[2], v[1]), FULL);
        cases.taken("but one of another row", States.corners(16), (x, v) -> x.corner(1, v[2], v[1]), 1);
        cases.made("all 16 count", States.corners(16), (x, v) -> x.area(0), "45/1 [2]");
        cases.made("the last of 16", States.corners(16), (x, v) -> x.at(0, v[3]), "3/1 [1]");
    }

    private void placesRise() {
        cases.sentence("places rise, and have all one unit, heights likewise");
        cases.refused("the same place", States::hairs, (x, v) -> x.corner(0, v[0], v[0]), OUTSIDE);
        cases.taken("a hair above", States::hairs, (x, v) -> x.corner(0, v[1], v[0]), 2);
        cases.refused("a hair below", States::hairs, (x, v) -> x.corner(0, v[2], v[0]), OUTSIDE);
        cases.taken("a lower height", States::hairs, (x, v) -> x.corner(0, v[1], v[2]), 2);
        cases.refused("a place of another unit", States::some, (x, v) -> x.corner(0, v[3], v[1]), UNLIKE);
        cases.refused("a height of another unit", States::some, (x, v) -> x.corner(0, v[2], v[3]), UNLIKE);
        cases.refused("both of another unit", States::some, (x, v) -> x.corner(0, v[3], v[3]), UNLIKE);
        cases.refused("both the other way round", States::some, (x, v) -> x.corner(1, v[3], v[2]), UNLIKE);
        cases.taken("a place of another unit for a first corner", States::some, (x, v) -> x.corner(2, v[3], v[7]), 1);
    }

    private void rowsEnd() {
        cases.sentence("it ends at its first and last one; OUTSIDE");
        cases.made("at the first", States::hairRow, (x, v) -> x.at(0, v[0]), "5/1 [0]");
        cases.made("at the last", States::hairRow, (x, v) -> x.at(0, v[1]), "7/1 [0]");
        cases.refused("a hair before the first", States::hairRow, (x, v) -> x.at(0, v[2]), OUTSIDE);
        cases.refused("a hair behind the last", States::hairRow, (x, v) -> x.at(0, v[3]), OUTSIDE);
        cases.made("a hair behind the first", States::hairRow, (x, v) -> x.at(0, v[4]), "(900)/(899) [0]");
        cases.made("a hair before the last", States::hairRow, (x, v) -> x.at(0, v[5]), "(900)/(899) [0]");
        cases.refused("there is none", States::some, (x, v) -> x.at(2, v[0]), OUTSIDE);
        cases.made("there is but one", States::some, (x, v) -> x.at(1, v[1]), "7/3 [2]");
        cases.refused("before the only one", States::some, (x, v) -> x.at(1, v[0]), OUTSIDE);
        cases.refused("behind the only one", States::some, (x, v) -> x.at(1, v[2]), OUTSIDE);
    }

    // ---- weights and shares

    private void weightsAtMost() {
        cases.sentence("WEIGHTS are whole numbers (1 .. 1000000000), 12 at most");
        for (int w : new int[] {1, 2, 999999999, 1000000000}) {
            cases.taken("weight " + w, States::some, (x, v) -> x.weight(w), 4);
        }
        for (int w : new int[] {0, -1, 1000000001, Integer.MIN_VALUE, Integer.MAX_VALUE}) {
            cases.refused("weight " + w, States::some, (x, v) -> x.weight(w), OUT_OF_BOUNDS);
        }
        for (int count = 0; count < 12; count++) {
            cases.taken("one more than " + count, States.weights(count, 5), (x, v) -> x.weight(5), count + 1);
        }
        cases.refused("a 13th", States.weights(12, 5), (x, v) -> x.weight(5), FULL);
        cases.refused("a 13th that is none", States.weights(12, 5), (x, v) -> x.weight(0), OUT_OF_BOUNDS);
    }

    private void sharesCutOff() {
        cases.sentence("THE SHARES: the units that are left go, one each, to those of which most was cut off");
        long[][] some = {
            // whole, then the shares by 3, 1, 2
            {0, 0, 0, 0}, {1, 1, 0, 0}, {2, 1, 0, 1}, {3, 2, 0, 1}, {4, 2, 1, 1}, {5, 2, 1, 2}, {6, 3, 1, 2},
            {7, 4, 1, 2}, {1000000000000L, 500000000000L, 166666666667L, 333333333333L}
        };
        for (long[] row : some) {
            for (int k = 0; k < 3; k++) {
                int own = k;
                cases.taken(row[0] + " by 3, 1, 2", States::some, (x, v) -> x.share(row[0], own), row[k + 1]);
            }
        }
        cases.sentence("THE SHARES: of several to the earlier one");
        for (int whole = 0; whole <= 13; whole++) {
            for (int k = 0; k < 12; k++) {
                long units = whole;
                int own = k;
                long due = whole / 12 + (k < whole % 12 ? 1 : 0);
                cases.taken(whole + " by 12 of 5", States.weights(12, 5), (x, v) -> x.share(units, own), due);
            }
        }
        cases.sentence("THE SHARES: beyond a long");
        long most = 1000000000000L;
        Cases.State great = States.weights(12, 1000000000);
        cases.taken("the first", great, (x, v) -> x.share(most, 0), 83333333334L);
        cases.taken("the fourth", great, (x, v) -> x.share(most, 3), 83333333334L);
        cases.taken("the fifth", great, (x, v) -> x.share(most, 4), 83333333333L);
        cases.taken("the last", great, (x, v) -> x.share(most, 11), 83333333333L);
        cases.taken("all to the only one", States.weights(1, 1000000000), (x, v) -> x.share(most, 0), most);
    }

    // ---- exceptions

    private void exceptionsAheadOfAnswers() {
        cases.sentence("exceptions, ahead of all answers below 0");
        Cases.State full = States.full(States::some);
        cases.refused("value by 0, ahead of FULL", full, (x, v) -> x.value(1, 0, 0), BY_NOTHING);
        cases.refused("value of no unit, ahead of FULL", full, (x, v) -> x.value(1, 1, 7), OUT_OF_BOUNDS);
        cases.refused("add, ahead of FULL", full, (x, v) -> x.add(v[0], 200, false), NO_SUCH);
        cases.refused("times, ahead of FULL", full, (x, v) -> x.times(200, v[0]), NO_SUCH);
        cases.refused("over, ahead of FULL", full, (x, v) -> x.over(v[0], 200), NO_SUCH);
        cases.refused("by 0, ahead of FULL", full, (x, v) -> x.over(v[1], v[0]), BY_NOTHING);
        cases.refused("by 0, ahead of UNLIKE", States::some, (x, v) -> x.over(v[8], v[0]), BY_NOTHING);
        cases.refused("by 0, ahead of both", full, (x, v) -> x.over(v[8], v[0]), BY_NOTHING);
        cases.refused("round's rule, ahead of FULL", full, (x, v) -> x.round(v[1], 4, 1), OUT_OF_BOUNDS);
        cases.refused("round's steps, ahead of FULL", full, (x, v) -> x.round(v[1], 0, 0), OUT_OF_BOUNDS);
        cases.refused("round's value, ahead of FULL", full, (x, v) -> x.round(200, 0, 1), NO_SUCH);
        cases.refused("round's rule, ahead of LONG", States::toBeRounded,
            (x, v) -> x.round(v[0], -1, 31), OUT_OF_BOUNDS);
        cases.refused("prism's c, ahead of UNLIKE", States::some, (x, v) -> x.prism(v[0], v[3], 9, v[0]), NO_SUCH);
        cases.refused("prism's h, ahead of UNLIKE", States::some, (x, v) -> x.prism(v[0], v[3], v[0], -1), NO_SUCH);
        cases.refused("prism's a, ahead of FULL", full, (x, v) -> x.prism(-1, v[0], v[0], v[0]), NO_SUCH);
        cases.refused("corner's height, ahead of UNLIKE", States::some, (x, v) -> x.corner(0, v[3], 9), NO_SUCH);
        cases.refused("corner's place, ahead of UNLIKE", States::some, (x, v) -> x.corner(0, 9, v[3]), NO_SUCH);
        cases.refused("corner's height, ahead of OUTSIDE", States::some, (x, v) -> x.corner(0, v[0], -1), NO_SUCH);
        cases.refused("corner's height, ahead of FULL", States.corners(16), (x, v) -> x.corner(0, v[2], -1), NO_SUCH);
        cases.refused("at's place, ahead of OUTSIDE", States::some, (x, v) -> x.at(2, 9), NO_SUCH);
        cases.refused("at's place, ahead of FULL", full, (x, v) -> x.at(0, 200), NO_SUCH);
        cases.refused("area's row, ahead of FULL", full, (x, v) -> x.area(3), NO_SUCH);
    }

    private void noSuchValue() {
        cases.sentence("there is no such value");
        for (int none : new int[] {-1, 9, 10, 200, Integer.MIN_VALUE, Integer.MAX_VALUE}) {
            String what = " of " + none;
            cases.refused("add a" + what, States::some, (x, v) -> x.add(none, v[1], false), NO_SUCH);
            cases.refused("add b" + what, States::some, (x, v) -> x.add(v[1], none, true), NO_SUCH);
            cases.refused("times a" + what, States::some, (x, v) -> x.times(none, v[1]), NO_SUCH);
            cases.refused("times b" + what, States::some, (x, v) -> x.times(v[1], none), NO_SUCH);
            cases.refused("over a" + what, States::some, (x, v) -> x.over(none, v[1]), NO_SUCH);
            cases.refused("over b" + what, States::some, (x, v) -> x.over(v[1], none), NO_SUCH);
            cases.refused("order a" + what, States::some, (x, v) -> x.order(none, v[1]), NO_SUCH);
            cases.refused("order b" + what, States::some, (x, v) -> x.order(v[1], none), NO_SUCH);
            cases.refused("round" + what, States::some, (x, v) -> x.round(none, 0, 1), NO_SUCH);
            cases.refused("prism a" + what, States::some, (x, v) -> x.prism(none, v[1], v[1], v[1]), NO_SUCH);
            cases.refused("prism b" + what, States::some, (x, v) -> x.prism(v[1], none, v[1], v[1]), NO_SUCH);
            cases.refused("prism c" + what, States::some, (x, v) -> x.prism(v[1], v[1], none, v[1]), NO_SUCH);
            cases.refused("prism h" + what, States::some, (x, v) -> x.prism(v[1], v[1], v[1], none), NO_SUCH);
            cases.refused("told" + what, States::some, (x, v) -> x.told(none, 0), NO_SUCH);
            cases.refused("digit" + what, States::some, (x, v) -> x.digit(none, 0, 0), NO_SUCH);
            cases.refused("corner's place" + what, States::some, (x, v) -> x.corner(0, none, v[1]), NO_SUCH);
            cases.refused("corner's height" + what, States::some, (x, v) -> x.corner(0, v[2], none), NO_SUCH);
            cases.refused("at's place" + what, States::some, (x, v) -> x.at(0, none), NO_SUCH);
        }
    }

    private void noSuchRowWeightDigit() {
        for (int none : NO_NUMBERS) {
            noSuch(none, none, none);
        }
        noSuch(3, 3, 1);
        noSuch(8, 12, 900);
    }

    private void noSuch(int row, int k, int i) {
        cases.sentence("there is no such row, weight, or digit");
        cases.refused("corner of row " + row, States::some, (x, v) -> x.corner(row, v[2], v[1]), NO_SUCH);
        cases.refused("at of row " + row, States::some, (x, v) -> x.at(row, v[1]), NO_SUCH);
        cases.refused("area of row " + row, States::some, (x, v) -> x.area(row), NO_SUCH);
        cases.refused("share " + k, States::some, (x, v) -> x.share(5, k), NO_SUCH);
        cases.refused("digit above " + i, States::some, (x, v) -> x.digit(v[1], 0, i), NO_SUCH);
        cases.refused("digit below " + i, States::some, (x, v) -> x.digit(v[1], 1, i), NO_SUCH);
    }

    private void theOneNamedFirst() {
        cases.sentence("exceptions, the one named first");
        cases.refused("value by 0 of no unit", States::some, (x, v) -> x.value(1, 0, 7), BY_NOTHING);
        cases.refused("no value by 0", States::some, (x, v) -> x.over(9, v[0]), NO_SUCH);
        cases.refused("0 by no value", States::some, (x, v) -> x.over(v[0], 9), NO_SUCH);
        cases.refused("round of no value by no rule", States::some, (x, v) -> x.round(9, 4, 1), NO_SUCH);
        cases.refused("round of no value to no steps", States::some, (x, v) -> x.round(-1, 0, 0), NO_SUCH);
        cases.refused("told of no value", States::some, (x, v) -> x.told(9, 4), NO_SUCH);
        cases.refused("digit of no value, of another part", States::some, (x, v) -> x.digit(9, 2, 0), NO_SUCH);
        cases.refused("digit below 0, of another part", States::some, (x, v) -> x.digit(v[1], 2, -1), NO_SUCH);
        cases.refused("no such digit, of another part", States::some, (x, v) -> x.digit(v[1], 2, 900), OUT_OF_BOUNDS);
        cases.refused("no such weight's of too few", States::some, (x, v) -> x.share(-1, 3), NO_SUCH);
        cases.refused("no such weight's of too many", States::some, (x, v) -> x.share(1000000000001L, -1), NO_SUCH);
    }
}
