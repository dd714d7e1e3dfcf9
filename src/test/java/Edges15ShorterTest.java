/** The boundary cases of promise 15, sentence by sentence. */
public final class Edges15ShorterTest {
    public static void main(String[] args) {
        beforeTheFirstOne();
        thatOneNot();
        allIfThereWasNone();
        ofTheLastRun();
        noRun();
        Due.close();
    }

    private static void beforeTheFirstOne() {
        Due.sentence(15, "How many steps the last RUN did before the first one by which a test was left");
        Calls.of("name a", "test t", "check a = 1", "set a 1").run(2).shorter(0);
        Calls.of("name a", "test t", "set a 1", "check a = 2").run(1).shorter(1);
        Calls.of("name a", "test t", "set a 1", "wait a = 2 1000", "set a 1", "test u", "set a 1").run(1).shorter(1);
        Calls.of("name a", "test t", "test u", "set a 1", "set a 1", "test v", "check a = 1", "test w", "check a = 1")
                .run(2).shorter(2);
        Calls.of("name a", "test t", "cases a 1 2 3", "check a < 3", "end", "always", "end").run(1).shorter(6);
        // In always: before the first one, which is not always the one that tells its test's verdict.
        Calls.of("name a", "test t", "set a 1", "always", "fault 1 on", "check a = 2", "set a 1", "end").run(1)
                .shorter(3);
        Calls.of("name a", "test t", "set a 1", "check a = 2", "always", "set a 1", "check a = 2", "end").run(1)
                .shorter(1);
    }

    private static void thatOneNot() {
        Due.sentence(15, "(that one not");
        Calls.of("name a", "test t", "set a 1", "set a 1", "set a 1", "check a = 2").run(1).steps(4).shorter(3);
        // One that could not begin was not done: before it there are all 2000.
        Calls.having("test t\n" + Due.many(8, "loop 20") + Due.many(8, "end")).run(2).steps(2000).shorter(2000);
        Calls.having("name a\ntest s\ncheck a = 1\ntest t\n" + Due.many(8, "loop 20") + Due.many(8, "end")).run(2)
                .steps(2000).shorter(0);
    }

    private static void allIfThereWasNone() {
        Due.sentence(15, "all, if there was none)");
        Calls.of("test t").run(0).shorter(0);
        Calls.of("name a", "test t", "set a 1").run(0).shorter(1);
        Calls.of("name a", "test t", "set a 1", "test u", "cases a 1 2", "check a > 0", "end", "always", "set a 1",
                "end").run(0).steps(8).shorter(8);
    }

    private static void ofTheLastRun() {
        Due.sentence(15, "How many steps the last RUN did");
        Calls x = Calls.of("name a", "test t", "check a = 1", "check a = 1", "check a = 1");
        x.run(2).shorter(0).answer(1, 1, 0, 1).answer(1, 2, 2, 2).shorter(0).run(1).shorter(2);
        x.answer(1, 1, 2, 3).run(0).shorter(3).answer(1, 2, 0, 4).run(1).shorter(0);
        for (int run = 5; run <= 8; run++) {
            x.run(1);
        }
        x.answer(1, 1, 0, 5).run(-4).shorter(0);
    }

    private static void noRun() {
        Due.sentence(15, "-3 there was no RUN.");
        new Calls().shorter(-3).run(-3).shorter(-3).read(0).shorter(-3);
        Calls.of("test t").shorter(-3).run(0).shorter(0).signs("test t").shorter(0).read(0).shorter(-3);
        Calls.of("test t").run(0).signs("oh").read(Due.THROWS).shorter(-3);
    }
}
