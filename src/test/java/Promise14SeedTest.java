/** Promise 14: the SEED of the drawn numbers. */
public final class Promise14SeedTest {
    public static void main(String[] args) {
        draws(1, 0, 999999);
        draws(0, 0, 999999);
        draws(-1, -5, 5);
        draws(0xFFFFFFFFL, -999999, 999999);
        draws(0x80000000L, 1, 6);
        draws(123456789012345L, 0, 65535);
        draws(Long.MIN_VALUE, 7, 7);
        draws(Long.MAX_VALUE, -999999, -999000);
        draws(20000, -3, 0);
        takesTheLowestBits();
        goesOnThroughTests();
        isForTheNextRuns();
        Due.close();
    }

    private static long next(long r) {
        return Math.floorMod(r * 25173 + 13849, 1L << 32);
    }

    private static void draws(long s, int low, int high) {
        TestText x = Due.of("name a", "test t", "loop 20", "draw a " + low + " " + high, "end");
        Due.is("seed(" + s + ")", x.seed(s), 1);
        for (int run = 0; run < 2; run++) {
            x.run();
            long r = Math.floorMod(s, 1L << 32);
            for (int i = 1; i <= 20; i++) {
                r = next(r);
                Due.is("cases(" + i + ", 2) of seed " + s, x.cases(i, 2), low + r / 65536 % (high - low + 1));
            }
        }
        Due.is("differ(1, 2)", x.differ(1, 2), -1);
    }

    private static void takesTheLowestBits() {
        TestText x = Due.of("name a", "test t", "draw a 0 65535");
        x.seed(5);
        x.run();
        x.seed((9L << 32) + 5);
        x.run();
        x.seed(5 - (1L << 32));
        x.run();
        Due.is("differ(1, 2)", x.differ(1, 2), -1);
        Due.is("differ(1, 3)", x.differ(1, 3), -1);
    }

    private static void goesOnThroughTests() {
        TestText x = Due.of("name a", "test t", "draw a 0 65535", "test u", "draw a 0 65535", "set a 5",
                "draw a 0 65535");
        x.seed(1000);
        x.run();
        long first = next(1000);
        long second = next(first);
        Due.is("cases(0, 2)", x.cases(0, 2), first / 65536);
        Due.is("cases(1, 2)", x.cases(1, 2), second / 65536);
        Due.is("cases(3, 2)", x.cases(3, 2), next(second) / 65536);
    }

    private static void isForTheNextRuns() {
        TestText x = Due.of("name a", "test t", "draw a 0 65535");
        x.seed(1 << 20);
        x.run();
        int drawn = x.cases(0, 2);
        x.seed(1 << 21);
        Due.is("cases(0, 2)", x.cases(0, 2), drawn);
        x.run();
        Due.is("cases(0, 2)", x.cases(0, 2), next(1 << 21) / 65536);
        x.run();
        Due.is("differ(2, 3)", x.differ(2, 3), -1);
        Due.is("differ(1, 2)", x.differ(1, 2), 0);
    }
}
