import java.util.Random;

/** Runs of calls with random arguments (the same in every run of the test), held against the oracle. */
public final class RandomRunsTest {
    private final Check check = new Check();

    public static void main(String[] args) {
        RandomRunsTest test = new RandomRunsTest();
        for (int seed = 0; seed < 400; seed++) {
            test.anyCalls(seed);
            test.longNumbers(seed);
            test.lines(seed);
            test.shares(seed);
        }
        for (int seed = 0; seed < 100; seed++) {
            test.limbEdges(seed);
        }
        test.check.end("RandomRunsTest");
    }

    private Pair pair(String kind, int seed) {
        return new Pair(kind + " " + seed, check);
    }

    private static long someLong(Random random) {
        switch (random.nextInt(8)) {
            case 0:
                return random.nextLong();
            case 1:
                return random.nextBoolean() ? Long.MIN_VALUE : Long.MAX_VALUE;
            case 2:
                return random.nextInt();
            case 3:
                return (random.nextBoolean() ? 1 : -1) * (1000000000L + random.nextInt(3) - 1);
            default:
                return random.nextInt(41) - 20;
        }
    }

    /** Mostly a number below count, now and then one just outside. */
    private static int someNumber(Random random, int count) {
        if (count == 0 || random.nextInt(40) == 0) {
            return random.nextInt(4) == 0 ? random.nextInt() : random.nextBoolean() ? -1 : count;
        }
        return random.nextInt(count);
    }

    private void anyCalls(int seed) {
        Random random = new Random(seed);
        Pair pair = pair("any calls", seed);
        int units = 1 + seed % 4;
        while (pair.callsLeft() > 0) {
            anyCall(pair, random, units);
        }
    }

    private static void anyCall(Pair pair, Random random, int units) {
        int values = pair.oracle.valueCount();
        int a = someNumber(random, values);
        int b = someNumber(random, values);
        int c = someNumber(random, values);
        int row = someNumber(random, pair.oracle.rowCount());
        switch (random.nextInt(22)) {
            case 0, 1, 2 -> pair.value(someLong(random), someLong(random), someUnit(random, units));
            case 3, 4 -> pair.add(a, b, random.nextBoolean());
            case 5 -> pair.times(a, b);
            case 6 -> pair.over(a, b);
            case 7 -> pair.order(a, b);
            case 8 -> pair.round(a, someRule(random), someSteps(random));
            case 9 -> pair.prism(a, b, c, someNumber(random, values));
            case 10 -> pair.told(a, random.nextInt(6) - 1);
            case 11, 12 -> pair.digit(a, somePart(random), random.nextInt(12) - 1);
            case 13 -> {
                if (random.nextInt(12) == 0) {
                    pair.clear();
                }
            }
            case 14 -> pair.row();
            case 15, 16, 17 -> pair.corner(row, a, b);
            case 18 -> pair.at(row, a);
            case 19 -> pair.area(row);
            case 20 -> pair.weight(someWeight(random));
            default -> {
                if (random.nextInt(30) == 0) {
                    pair.noWeights();
                } else {
                    pair.share(someWhole(random), someNumber(random, pair.oracle.weightCount()));
                }
            }
        }
    }

    private static int someUnit(Random random, int units) {
        return random.nextInt(20) == 0 ? random.nextInt(17) - 8 : random.nextInt(units);
    }

    private static int someRule(Random random) {
        return random.nextInt(20) == 0 ? random.nextInt(7) - 1 : random.nextInt(4);
    }

    private static int somePart(Random random) {
        return random.nextInt(10) == 0 ? random.nextInt() : random.nextInt(2);
    }

    private static int someSteps(Random random) {
        return switch (random.nextInt(6)) {
            case 0 -> random.nextInt();
            case 1 -> 1000000000 + random.nextInt(3) - 1;
            case 2 -> random.nextInt(1000000000) + 1;
            default -> random.nextInt(12);
        };
    }

    private static int someWeight(Random random) {
        return switch (random.nextInt(6)) {
            case 0 -> random.nextInt();
            case 1 -> 1000000000 - random.nextInt(3);
            case 2 -> random.nextInt(1000000000) + 1;
            default -> random.nextInt(8);
        };
    }

    private static long someWhole(Random random) {
        return switch (random.nextInt(6)) {
            case 0 -> random.nextLong();
            case 1 -> 1000000000000L + random.nextInt(3) - 1;
            case 2, 3 -> (long) (random.nextDouble() * 1e12);
            default -> random.nextInt(40);
        };
    }

    /** Reads as many digits as calls are left, of random values that there are. */
    private static void readDigits(Pair pair, Random random, int atMost) {
        for (int i = 0; i < atMost && pair.callsLeft() > 2; i++) {
            int a = random.nextInt(pair.oracle.valueCount());
            int part = random.nextInt(2);
            int digits = pair.told(a, part + 1);
            pair.digit(a, part, random.nextInt(digits));
        }
    }

    /** A value of about so many digits above and below: products of random longs, and a sum. */
    private static int grown(Pair pair, Random random, int digits, boolean whole) {
        int made = pair.value(random.nextLong(), whole ? 1 : random.nextLong() | 1, 0);
        for (int have = 19; have + 18 <= digits; have += 18) {
            int next = pair.value(random.nextLong(), whole ? 1 : random.nextLong() | 1, 0);
            made = pair.times(made, next);
        }
        return made;
    }

    private void longNumbers(int seed) {
        Random random = new Random(1000 + seed);
        Pair pair = pair("long numbers", seed);
        int x = grown(pair, random, 100 + random.nextInt(300), random.nextInt(4) == 0);
        int y = grown(pair, random, 100 + random.nextInt(300), random.nextInt(4) == 0);
        int shared = grown(pair, random, 50 + random.nextInt(100), false);
        int[] pool = new int[24];
        int count = 0;
        pool[count++] = x;
        pool[count++] = y;
        pool[count++] = pair.times(x, shared);
        pool[count++] = pair.times(y, shared);
        pool[count++] = shared;
        for (int i = 0; i < 120; i++) {
            int made = combined(pair, random, pool, count);
            if (made >= 0) {
                pool[count < pool.length ? count++ : random.nextInt(count)] = made;
            }
        }
        readDigits(pair, random, 200);
    }

    private static int combined(Pair pair, Random random, int[] pool, int count) {
        int a = pool[random.nextInt(count)];
        int b = pool[random.nextInt(count)];
        return switch (random.nextInt(6)) {
            case 0 -> pair.times(a, b);
            case 1, 2 -> pair.over(a, b);
            case 3 -> pair.round(a, random.nextInt(4), random.nextBoolean() ? 1 : 1 + random.nextInt(1000000000));
            case 4 -> pair.prism(a, b, pool[random.nextInt(count)], pool[random.nextInt(count)]);
            default -> {
                pair.order(a, b);
                yield pair.add(a, b, random.nextBoolean());
            }
        };
    }

    /** Numbers near powers of ten, whose limbs are full or empty: what is carried there goes far. */
    private void limbEdges(int seed) {
        Random random = new Random(4000 + seed);
        Pair pair = pair("limb edges", seed);
        int[] pool = new int[24];
        int count = 0;
        for (int i = 0; i < 4; i++) {
            int made = nearTen(pair, random);
            if (made >= 0) {
                pool[count++] = made;
            }
        }
        while (pair.callsLeft() > 130) {
            int made = combined(pair, random, pool, count);
            if (made >= 0) {
                pool[count < pool.length ? count++ : random.nextInt(count)] = made;
            }
        }
        readDigits(pair, random, 200);
    }

    private static int nearTen(Pair pair, Random random) {
        int odd = random.nextInt(3) == 0 ? random.nextInt(9) : 0;
        int ten = States.ten(pair, 9 * (1 + random.nextInt(48)) + odd);
        int small = random.nextBoolean()
            ? pair.value(random.nextInt(5) - 2, 1, 0) : States.ten(pair, 9 * random.nextInt(40));
        int made = pair.add(ten, small, random.nextBoolean());
        return random.nextInt(3) > 0 ? made : pair.times(made, pair.value(random.nextInt(2000) - 1000, 1, 0));
    }

    /** Corners on one long straight line: heights between them are short though what leads there is long. */
    private void lines(int seed) {
        Random random = new Random(2000 + seed);
        Pair pair = pair("lines", seed);
        int slope = grown(pair, random, 20 + random.nextInt(120), random.nextBoolean());
        int start = grown(pair, random, 20 + random.nextInt(200), random.nextBoolean());
        int step = grown(pair, random, 20 + random.nextInt(120), random.nextBoolean());
        int row = pair.row();
        int place = start;
        int corners = 2 + random.nextInt(17);
        boolean falling = pair.told(step, 0) < 0;
        for (int i = 0; i < corners && place >= 0; i++) {
            int product = pair.times(place, slope);
            int height = product < 0 ? place : pair.add(product, random.nextInt(5) == 0 ? slope : start, false);
            pair.corner(row, place, height < 0 ? slope : height);
            place = pair.add(place, step, falling);
        }
        pair.area(row);
        int parts = pair.value(random.nextInt(60) - 2, 1 + random.nextInt(30), 0);
        for (int i = 0; i < 12; i++) {
            int way = pair.times(step, parts);
            int where = pair.add(start, way, falling);
            pair.at(row, where);
            parts = pair.value(random.nextInt(200) - 2, 1 + random.nextInt(30), 0);
        }
        pair.at(row, start);
        readDigits(pair, random, 200);
    }

    private void shares(int seed) {
        Random random = new Random(3000 + seed);
        Pair pair = pair("shares", seed);
        while (pair.callsLeft() > 40) {
            int count = 1 + random.nextInt(13);
            for (int i = 0; i < count; i++) {
                pair.weight(someWeight(random));
            }
            long whole = someWhole(random);
            for (int k = -1; k <= 12; k++) {
                pair.share(whole, k);
            }
            pair.noWeights();
        }
    }
}
