/** States in which boundary cases begin. */
final class States {
    static final int MOST_VALUES = 200;

    private States() {
    }

    static int[] nothing(Pair x) {
        return new int[0];
    }

    /**
     * Values 0: 0 m, 1: 3/2 m, 2: 1000 m, 3: 7/3 square metres, 4: -5/4 m, 5: 0, 6: 2, 7: 1 [6], 8: 1 [-6];
     * row 0 with two corners, row 1 with one, row 2 with none; weights 3, 1, 2.
     */
    static int[] some(Pair x) {
        int[] v = {
            x.value(0, 1, 1), x.value(3, 2, 1), x.value(1000, 1, 1), x.value(7, 3, 2), x.value(-5, 4, 1),
            x.value(0, 1, 0), x.value(2, 1, 0), x.value(1, 1, 6), x.value(1, 1, -6)
        };
        x.row();
        x.corner(0, v[0], v[4]);
        x.corner(0, v[1], v[1]);
        x.row();
        x.corner(1, v[1], v[3]);
        x.row();
        x.weight(3);
        x.weight(1);
        x.weight(2);
        return v;
    }

    /** The same state, and then as many values as are wanted. */
    static Cases.State filled(Cases.State state, int wanted) {
        return x -> {
            int[] v = state.make(x);
            for (int i = x.oracle.valueCount(); i < wanted; i++) {
                x.value(i, 1, 0);
            }
            return v;
        };
    }

    static Cases.State full(Cases.State state) {
        return filled(state, MOST_VALUES);
    }

    /** Ten to this power. */
    static int ten(Face x, int power) {
        int square = x.value(10, 1, 0);
        int made = x.value(1, 1, 0);
        for (int rest = power; rest > 0; rest /= 2) {
            if (rest % 2 == 1) {
                made = x.times(made, square);
            }
            if (rest > 1) {
                square = x.times(square, square);
            }
        }
        return made;
    }

    static int of(Face x, int a, int unit) {
        return x.times(a, x.value(1, 1, unit));
    }

    static int minus(Face x, int a) {
        return x.times(a, x.value(-1, 1, 0));
    }

    /** 900 nines. */
    static int nines(Face x, int most) {
        int nine = x.times(most, x.value(9, 1, 0));
        return x.add(nine, x.add(most, x.value(1, 1, 0), true), false);
    }

    /**
     * 0: a 1 with 899 noughts, 1: 1 by that, 2: 900 nines, 3: 1 by them, 4: 900 nines below 0,
     * 5: 1, 6: 1/11, 7: 10, 8: 1/9, 9: half of 900 nines, 10: 9, 11: 2, 12: 0.
     */
    static int[] longs(Pair x) {
        int one = x.value(1, 1, 0);
        int two = x.value(2, 1, 0);
        int most = ten(x, 899);
        int nines = nines(x, most);
        return new int[] {
            most, x.over(one, most), nines, x.over(one, nines), minus(x, nines),
            one, x.value(1, 11, 0), x.value(10, 1, 0), x.value(1, 9, 0), x.over(nines, two),
            x.value(9, 1, 0), two, x.value(0, 1, 0)
        };
    }

    /** Of each unit from -6 on 2/3, and then nothing of unit 1. */
    static int[] units(Pair x) {
        int[] v = new int[14];
        for (int i = 0; i < 13; i++) {
            v[i] = x.value(2, 3, i - 6);
        }
        v[13] = x.value(0, 1, 1);
        return v;
    }

    /** A row from 2 m at place -1 m down to -2 m at place 1 m. */
    static int[] crossing(Pair x) {
        int[] v = {x.value(-1, 1, 1), x.value(1, 1, 1), x.value(2, 1, 1), x.value(0, 1, 1), x.value(-2, 1, 1)};
        x.row();
        x.corner(0, v[0], v[2]);
        x.corner(0, v[1], v[4]);
        return v;
    }

    /** A row of so many corners at places 1, 3, .. and height 3, of these units. */
    static Cases.State lineOf(int corners, int placeUnit, int heightUnit) {
        return x -> {
            int[] v = {x.value(99, 1, placeUnit), x.value(3, 1, heightUnit)};
            x.row();
            for (int i = 0; i < corners; i++) {
                x.corner(0, x.value(2 * i + 1, 1, placeUnit), v[1]);
            }
            return v;
        };
    }

    /**
     * 0: a third of a 900 digits' number, 1: of which 17 are a 1 with 900 noughts less 2/9, 2: that below 0,
     * 3: of which 53 are a 1 with 900 noughts less 4/7, 4: 1 by a 1 with 899 noughts, 5: a 1 with 899 noughts.
     */
    static int[] toBeRounded(Pair x) {
        int most = ten(x, 899);
        int third = x.over(x.add(most, x.value(4, 1, 0), false), x.value(3, 1, 0));
        int little = cutBy(x, most, 17, 90, 74, 9);
        int much = cutBy(x, most, 53, 70, 62, 7);
        return new int[] {third, little, minus(x, little), much, x.over(x.value(1, 1, 0), most), most};
    }

    /** (most by divisor, rounded down, times factor, and rest) by below. */
    private static int cutBy(Face x, int most, int divisor, int factor, int rest, int below) {
        int whole = x.round(x.over(most, x.value(divisor, 1, 0)), 0, 1);
        int above = x.add(x.times(whole, x.value(factor, 1, 0)), x.value(rest, 1, 0), false);
        return x.over(above, x.value(below, 1, 0));
    }

    /**
     * 0: a 2 with 899 noughts less 1, 1: a 2 with 899 noughts, 2: 0, 3: 6, 4: 1, 5: -6,
     * 6: 1 by a 1 with 899 noughts, 7: 1/2.
     */
    static int[] toBePrisms(Pair x) {
        int most = ten(x, 899);
        int one = x.value(1, 1, 0);
        int twice = x.add(most, most, false);
        return new int[] {
            x.add(twice, one, true), twice, x.value(0, 1, 0), x.value(6, 1, 0), one, x.value(-6, 1, 0),
            x.over(one, most), x.value(1, 2, 0)
        };
    }

    /**
     * Rows from place 0 to 1: row 0 from 0 to 900 nines, row 1 from 0 to 1 by a 1 with 899 noughts, row 2 from
     * 900 nines to 9 less. 0: 0, 1: 1, 2: 1/17, 3: 2/17, 4: 1/9, 5: 1/11.
     */
    static int[] longLines(Pair x) {
        int[] v = {
            x.value(0, 1, 0), x.value(1, 1, 0), x.value(1, 17, 0), x.value(2, 17, 0),
            x.value(1, 9, 0), x.value(1, 11, 0)
        };
        int most = ten(x, 899);
        int nines = nines(x, most);
        from0To1(x, v, v[0], nines);
        from0To1(x, v, v[0], x.over(v[1], most));
        from0To1(x, v, nines, x.add(nines, x.value(9, 1, 0), true));
        return v;
    }

    private static void from0To1(Face x, int[] v, int from, int to) {
        int row = x.row();
        x.corner(row, v[0], from);
        x.corner(row, v[1], to);
    }

    /** Ten to this power, that may be below 0. */
    private static int anyTen(Face x, int power) {
        int made = ten(x, Math.abs(power));
        return power < 0 ? x.over(x.value(1, 1, 0), made) : made;
    }

    /** A row as wide as ten to one power, its height ten to another, so many times. */
    static Cases.State block(int wide, int high, int times) {
        return x -> {
            int height = x.times(anyTen(x, high), x.value(times, 1, 0));
            int[] v = {x.value(0, 1, 0), height, anyTen(x, wide)};
            x.row();
            x.corner(0, v[0], v[1]);
            x.corner(0, v[2], v[1]);
            return v;
        };
    }

    /**
     * 0: 900 nines, 1: as many of unit 6, 2: 10, 3: 10 m, 4: 1/10, 5: 1/10 of unit -1, 6: a third of a
     * 900 digits' number, 7: 2/17. Row 0 rises to 900 nines; row 1 has an area of no unit, row 2 a long
     * one, row 3 one that is long on the way.
     */
    static int[] manyFaults(Pair x) {
        int most = ten(x, 899);
        int nines = nines(x, most);
        int third = x.over(x.add(most, x.value(4, 1, 0), false), x.value(3, 1, 0));
        int[] v = {
            nines, of(x, nines, 6), x.value(10, 1, 0), x.value(10, 1, 1), x.value(1, 10, 0), x.value(1, 10, -1),
            third, x.value(2, 17, 0)
        };
        int zero = x.value(0, 1, 0);
        int one = x.value(1, 1, 0);
        x.row();
        x.corner(0, zero, zero);
        x.corner(0, one, nines);
        x.row();
        x.corner(1, x.value(1, 1, 1), v[1]);
        x.corner(1, x.value(2, 1, 1), v[1]);
        x.row();
        x.corner(2, zero, nines);
        x.corner(2, v[2], nines);
        thereAndBack(x, v[2], nines);
        return v;
    }

    /** A row that goes so far at a height, and then as far at as much below 0. */
    static int thereAndBack(Face x, int far, int high) {
        int deep = minus(x, high);
        int behind = x.add(far, x.value(1, 1, 0), false);
        int row = x.row();
        x.corner(row, x.value(0, 1, 0), high);
        x.corner(row, far, high);
        x.corner(row, behind, deep);
        x.corner(row, x.add(behind, far, false), deep);
        return row;
    }

    /** A row that goes ten to one power far at ten to another, so many times, and then as far below 0. */
    static Cases.State there(int wide, int high, int times) {
        return x -> {
            int[] v = {anyTen(x, wide), x.times(anyTen(x, high), x.value(times, 1, 0))};
            thereAndBack(x, v[0], v[1]);
            return v;
        };
    }

    /** A row of two corners, whose halves would be long. */
    static int[] steep(Pair x) {
        int most = ten(x, 899);
        int[] v = {x.value(0, 1, 0), most, minus(x, most)};
        x.row();
        x.corner(0, v[0], v[1]);
        x.corner(0, v[1], v[2]);
        return v;
    }

    /** A row whose area is 0 up to corner way - 1, then by the power's square for two corners, and 0 in the end. */
    static Cases.State onTheWay(int way, int power) {
        return x -> {
            int high = ten(x, power);
            int[] v = {x.value(0, 1, 0), high, minus(x, high)};
            x.row();
            for (int i = 0; i < way; i++) {
                x.corner(0, x.value(i, 1, 0), v[0]);
            }
            int far = x.add(high, high, false);
            x.corner(0, high, v[1]);
            x.corner(0, far, v[2]);
            x.corner(0, x.add(far, x.add(high, x.value(1 - way, 1, 0), false), false), v[0]);
            return v;
        };
    }

    /** Rows without corners, and no values. */
    static Cases.State rowsAlone(int count) {
        return x -> {
            for (int i = 0; i < count; i++) {
                x.row();
            }
            return new int[0];
        };
    }

    static int[] cleared(Pair x) {
        int[] v = some(x);
        x.clear();
        return v;
    }

    /** 0: a hair more than 1/2, 1: a hair less. */
    static int[] halves(Pair x) {
        int half = x.value(1, 2, 0);
        int hair = x.over(x.value(1, 1, 0), ten(x, 899));
        return new int[] {x.add(half, hair, false), x.add(half, hair, true)};
    }

    /** A row by (1 m, -5), (2 m, 5), (5 m, 3), heights of unit -6. 0: 1 m, 1: 2 m, 2: 5 m, 3: 3/2 m, 4: 3 m. */
    static int[] zigzag(Pair x) {
        int[] v = {x.value(1, 1, 1), x.value(2, 1, 1), x.value(5, 1, 1), x.value(3, 2, 1), x.value(3, 1, 1)};
        x.row();
        x.corner(0, v[0], x.value(-5, 1, -6));
        x.corner(0, v[1], x.value(5, 1, -6));
        x.corner(0, v[2], x.value(3, 1, -6));
        return v;
    }

    static Cases.State rows(int count) {
        return x -> {
            int[] v = {x.value(0, 1, 1), x.value(1, 1, 1)};
            for (int i = 0; i < count; i++) {
                x.row();
            }
            return v;
        };
    }

    /**
     * A row with so many corners from 0 m on, a metre apart, at height 3 m, and one without.
     * 0: 0 m, 1: 3 m, 2: 100 m, 3: 15 m, 4: 1, 5: 14 m.
     */
    static Cases.State corners(int count) {
        return x -> {
            int[] v = {
                x.value(0, 1, 1), x.value(3, 1, 1), x.value(100, 1, 1), x.value(15, 1, 1),
                x.value(1, 1, 0), x.value(14, 1, 1)
            };
            x.row();
            x.row();
            for (int i = 0; i < count; i++) {
                x.corner(0, x.value(i, 1, 1), v[1]);
            }
            return v;
        };
    }

    /** 0: 1, 1: a hair more, 2: a hair less; a row with one corner at 1. */
    static int[] hairs(Pair x) {
        int one = x.value(1, 1, 0);
        int hair = x.over(one, ten(x, 899));
        int[] v = {one, x.add(one, hair, false), x.add(one, hair, true)};
        x.row();
        x.corner(0, one, one);
        return v;
    }

    /** A row from 5 at 1 to 7 at 2. 0: 1, 1: 2, 2: a hair below 1, 3: above 2, 4: above 1, 5: below 2. */
    static int[] hairRow(Pair x) {
        int one = x.value(1, 1, 0);
        int two = x.value(2, 1, 0);
        int hair = x.over(one, ten(x, 899));
        int[] v = {
            one, two, x.add(one, hair, true), x.add(two, hair, false), x.add(one, hair, false), x.add(two, hair, true)
        };
        x.row();
        x.corner(0, one, x.value(5, 1, 0));
        x.corner(0, two, x.value(7, 1, 0));
        return v;
    }

    static Cases.State weights(int count, int weight) {
        return x -> {
            for (int i = 0; i < count; i++) {
                x.weight(weight);
            }
            return new int[0];
        };
    }
}
