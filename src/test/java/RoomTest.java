import java.lang.management.ManagementFactory;

/**
 * What the dearest runs of 512 calls make. An element or field has four bytes at least and an object
 * sixteen, so that eight million bytes are fewer than 600,000 objects and 7.3 million elements.
 */
public final class RoomTest {
    private static final int NEW_OBJECTS = 512;
    private static final long MOST_BYTES = 8_000_000;
    private static final int GROWN_CALLS = 30;

    private final com.sun.management.ThreadMXBean meter =
        (com.sun.management.ThreadMXBean) ManagementFactory.getThreadMXBean();
    private final Check check = new Check();

    public static void main(String[] args) {
        RoomTest test = new RoomTest();
        test.newObjects();
        test.longSums();
        test.longHeights();
        test.longAreas();
        test.check.end("RoomTest");
    }

    private interface Run {
        void go(Counted x);
    }

    private void stays(String what, Run run) {
        run.go(new Counted());
        long before = meter.getThreadAllocatedBytes(Thread.currentThread().getId());
        run.go(new Counted());
        long made = meter.getThreadAllocatedBytes(Thread.currentThread().getId()) - before;
        System.out.println(what + ": " + made + " bytes");
        check.same(what, made < MOST_BYTES ? "little" : made + " bytes", "little");
    }

    private void newObjects() {
        stays("512 new objects", x -> {
            for (int i = 0; i < NEW_OBJECTS; i++) {
                new MetreFractions().row();
            }
        });
    }

    /** A value of some 870 digits above and below, another one for each seed. */
    private static int grown(Face x, long seed) {
        int made = x.value(seed, seed + 1, 0);
        for (int i = 1; i <= 7; i++) {
            made = x.times(made, x.value(seed + 5L * i, seed + 5L * i + 2, 0));
            made = i <= 4 ? x.times(made, made) : made;
        }
        return made;
    }

    private void longSums() {
        stays("long sums", x -> {
            int a = grown(x, 1000000000000000003L);
            int b = x.add(a, x.value(1, 1, 0), false);
            while (x.callsLeft() > 0) {
                if (x.add(a, b, x.callsLeft() % 2 == 0) == MetreFractions.FULL && x.callsLeft() > GROWN_CALLS) {
                    x.clear();
                    a = grown(x, 1000000000000000003L);
                    b = x.add(a, x.value(1, 1, 0), false);
                }
            }
        });
    }

    private void longHeights() {
        stays("long heights", x -> {
            int one = grown(x, 1000000000000000003L);
            int other = x.add(grown(x, 2000000000000000003L), x.value(3, 1, 0), false);
            int between = x.add(grown(x, 3000000000000000007L), x.value(1, 1, 0), false);
            int row = x.row();
            x.corner(row, one, other);
            x.corner(row, other, one);
            check.due("a height between", () -> x.at(row, between), MetreFractions.LONG);
            while (x.callsLeft() > 0) {
                x.at(row, x.callsLeft() % 2 == 0 ? between : x.callsLeft() % 4 == 1 ? one : other);
            }
        });
    }

    private void longAreas() {
        stays("long areas", x -> {
            int row = x.row();
            int step = x.value(1, 1, 0);
            for (int i = 0; i < 22; i++) {
                step = x.times(step, x.value(1000000000000000003L + i, 1, 0));
            }
            int place = step;
            for (int i = 0; i < 16; i++) {
                x.corner(row, place, step);
                place = x.add(place, step, false);
            }
            check.due("an area's sign", () -> x.told(x.area(row), 0), 1);
            while (x.callsLeft() > 0) {
                x.area(row);
            }
        });
    }
}
