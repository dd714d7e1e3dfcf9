/** The boundary cases of promise 14 and of the row of drawn numbers, sentence by sentence. */
public final class Edges14SeedTest {
    private static final long ALL = 1L << 32;

    public static void main(String[] args) {
        lowestBits();
        forTheNextRuns();
        nextOfTheRow();
        moduloTheSpan();
        goesOnThroughTests();
        Due.close();
    }

    private static long next(long r) {
        return Math.floorMod(r * 25173 + 13849, ALL);
    }

    /** The seed behind which the row begins with r. */
    static long before(long r) {
        long inverse = 1;
        for (int i = 0; i < 5; i++) {
            inverse = Math.floorMod(inverse * (2 - 25173 * inverse), ALL);
        }
        return Math.floorMod((r - 13849) * inverse, ALL);
    }

    private static Calls drawing() {
        return Calls.of("name a", "test t", "draw a 0 65535", "draw a 0 65535", "draw a 0 65535");
    }

    private static void draws(Calls x, long seed) {
        long r = seed;
        for (int i = 0; i < 3; i++) {
            r = next(r);
            x.cases(i, 2, (int) (r / 65536));
        }
    }

    private static void lowestBits() {
        Due.sentence(14, "The SEED for the next RUNS (lowest 32 bits): 1.");
        long[][] seeds = {{0, 0}, {1, 1}, {2, 2}, {Integer.MAX_VALUE, Integer.MAX_VALUE}, {1L << 31, 1L << 31},
            {(1L << 31) + 1, (1L << 31) + 1}, {ALL - 2, ALL - 2}, {ALL - 1, ALL - 1}, {ALL, 0}, {ALL + 1, 1},
            {2 * ALL - 1, ALL - 1}, {2 * ALL, 0}, {-1, ALL - 1}, {-2, ALL - 2}, {Integer.MIN_VALUE, 1L << 31},
            {-ALL, 0}, {-ALL - 1, ALL - 1}, {-ALL + 1, 1}, {Long.MAX_VALUE, ALL - 1}, {Long.MIN_VALUE, 0},
            {Long.MIN_VALUE + 1, 1}};
        for (long[] seed : seeds) {
            Calls x = drawing().seed(seed[0]).run(0);
            draws(x, seed[1]);
            x.seed(seed[1]).run(0).differ(1, 2, -1);
        }
        // Seeds next to one another are not the same one.
        drawing().seed(ALL).run(0).seed(ALL - 1).run(0).seed(ALL + 1).run(0).differ(1, 2, 0).differ(1, 3, 1)
                .differ(2, 3, 0);
    }

    private static void forTheNextRuns() {
        Due.sentence(14, "The SEED for the next RUNS");
        Calls x = drawing().run(0);
        draws(x, 1);
        x.seed(77777777);
        draws(x, 1);
        x.run(0);
        draws(x, 77777777);
        x.run(0).differ(2, 3, -1).differ(1, 2, 0).seed(5).seed(77777777).run(0).differ(2, 4, -1);
        // Before there is a text, too.
        Calls y = new Calls().seed(77777777).signs("name a\ntest t\ndraw a 0 65535\ndraw a 0 65535\ndraw a 0 65535")
                .read(3).run(0);
        draws(y, 77777777);
    }

    private static void nextOfTheRow() {
        Due.sentence(14, "r the next of the row r = (r * 25173 + 13849) modulo 2^32 behind the SEED");
        for (long r : new long[] {0, 1, 65535, 65536, 65537, ALL / 2 - 1, ALL / 2, ALL / 2 + 1, ALL - 65537,
            ALL - 65536, ALL - 1}) {
            Due.is("the row behind the seed begins with it", next(before(r)), r);
            Calls x = drawing().seed(before(r)).run(0).cases(0, 2, (int) (r / 65536));
            draws(x, before(r));
        }
        // The last seed before the row wraps, and the first behind it.
        long last = (ALL - 1 - 13849) / 25173;
        drawing().seed(last).run(0).cases(0, 2, 65535).seed(last + 1).run(0).cases(0, 2, 0);
        // Twenty of it, one after the other.
        Calls x = Calls.of("name a", "test t", "loop 20", "draw a 0 65535", "end").seed(ALL - 1).run(0);
        long r = ALL - 1;
        for (int i = 1; i <= 20; i++) {
            r = next(r);
            x.cases(i, 2, (int) (r / 65536));
        }
    }

    /** r / 65536 is 0 .. 65535; what is drawn from it lies in the span, its ends with it. */
    private static void moduloTheSpan() {
        Due.sentence(14, "draw: low + (r / 65536) modulo (high - low + 1)");
        int[][] due = {
            // low, high, r / 65536, what is drawn
            {7, 7, 0, 7}, {7, 7, 65535, 7}, {-7, -7, 65535, -7}, {0, 0, 1, 0},
            {0, 1, 0, 0}, {0, 1, 1, 1}, {0, 1, 2, 0}, {-1, 0, 65535, 0}, {-1, 0, 65534, -1},
            {1, 6, 0, 1}, {1, 6, 5, 6}, {1, 6, 6, 1}, {1, 6, 65535, 1 + 65535 % 6},
            {0, 65534, 65534, 65534}, {0, 65534, 65535, 0}, {0, 65535, 65535, 65535}, {0, 65536, 65535, 65535},
            {-999999, 999999, 0, -999999}, {-999999, 999999, 65535, -999999 + 65535}, {-999999, -999999, 3, -999999},
            {999999, 999999, 65535, 999999}, {999998, 999999, 1, 999999}, {-10, -5, 5, -5}, {-10, -5, 6, -10}};
        for (int[] one : due) {
            Calls.of("name a", "test t", "draw a " + one[0] + " " + one[1], "check a = " + one[3])
                    .seed(before(one[2] * 65536L + 65535)).run(0).cases(0, 2, one[3])
                    .seed(before(one[2] * 65536L)).run(0).cases(0, 2, one[3]);
        }
    }

    private static void goesOnThroughTests() {
        Due.sentence(14, "(the row goes on through the tests of a run, and begins anew with each RUN)");
        Calls x = Calls.of("name a", "test t", "draw a 0 65535", "test u", "test v", "set a 1", "draw a 0 65535",
                "test w", "always", "draw a 0 65535", "end").seed(123456789);
        long first = next(123456789);
        long second = next(first);
        for (int run = 1; run <= 3; run++) {
            x.run(0).cases(0, 2, (int) (first / 65536)).cases(2, 2, (int) (second / 65536))
                    .cases(4, 2, (int) (next(second) / 65536)).differ(1, run, -1);
        }
        // Only what is drawn takes one of the row, one of a span of 1, too.
        Calls.of("name a", "test t", "set a 1", "cases a 1 2", "end", "wait a = 2 0", "loop 2", "end",
                "draw a 0 65535").seed(123456789).run(0).cases(6, 2, (int) (first / 65536));
        Calls.of("name a", "test t", "draw a 5 5", "draw a 0 65535").seed(123456789).run(0).cases(0, 2, 5)
                .cases(1, 2, (int) (second / 65536));
    }
}
