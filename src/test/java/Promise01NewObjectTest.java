/** Promise 1: a new object has no text, no tests, no answers, SEED 1. */
public final class Promise01NewObjectTest {
    public static void main(String[] args) {
        hasNothing();
        hasAnEmptyText();
        hasSeedOne();
        isItsOwn();
        Due.close();
    }

    private static void hasNothing() {
        TestText x = new TestText();
        Due.is("wrong()", x.wrong(), 0);
        Due.is("run()", x.run(), -3);
        Due.is("answer(1, 0, 0)", x.answer(1, 0, 0), -1);
        Due.is("verdict(1, 0)", x.verdict(1, 0), -1);
        Due.is("verdict(0, 0)", x.verdict(0, 0), -1);
        Due.is("ended(1)", x.ended(1), -1);
        Due.is("undone(0)", x.undone(0), 0);
        Due.is("differ(1, 1)", x.differ(1, 1), -2);
        Due.is("cover(0, 1)", x.cover(0, 1), -1);
        Due.is("cover(1, 1)", x.cover(1, 1), -1);
        Due.is("cover(2, 1)", x.cover(2, 1), 0);
        Due.is("least(0)", x.least(0), 0);
        Due.is("shorter()", x.shorter(), -3);
        Due.is("cases(0, 0)", x.cases(0, 0), -1);
        Due.is("plant(1, false)", x.plant(1, false), 0);
    }

    private static void hasAnEmptyText() {
        TestText x = new TestText();
        Due.is("read()", Due.reads(x), 0);
        Due.is("wrong()", x.wrong(), 0);
        Due.is("run()", x.run(), -3);
    }

    private static void hasSeedOne() {
        TestText x = Due.of("name a", "test t", "draw a 0 999999", "draw a 0 999999");
        x.run();
        x.seed(1);
        x.run();
        Due.is("differ(1, 2)", x.differ(1, 2), -1);
        // (1 * 25173 + 13849) / 65536, and the next one, which is another for each seed
        Due.is("cases(0, 2)", x.cases(0, 2), 0);
        Due.is("cases(1, 2)", x.cases(1, 2), (39022L * 25173 + 13849) / 65536);
        x.seed(0x7FFFFFFFL);
        x.run();
        Due.is("differ(1, 3)", x.differ(1, 3), 0);
    }

    private static void isItsOwn() {
        TestText x = Due.of("name a", "test t", "set a 1");
        x.plant(1, true);
        x.run();
        TestText y = new TestText();
        Due.is("run()", y.run(), -3);
        Due.is("plant(2, true)", y.plant(2, true), 1);
        Due.is("cases(0, 0)", x.cases(0, 0), 3);
    }
}
