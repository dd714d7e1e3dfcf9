/** Promise 16: the steps of the last RUN. */
public final class Promise16CasesTest {
    public static void main(String[] args) {
        refusesTheFirstThatFits();
        tellsEachKindOfStep();
        tellsTheLastRun();
        Due.close();
    }

    private static void refusesTheFirstThatFits() {
        TestText x = Due.of("name a", "test t", "set a 1");
        Due.is("cases(0, 0)", x.cases(0, 0), -1);
        Due.is("cases(0, 3)", x.cases(0, 3), -1);
        x.run();
        Due.row(x, 0, 3, 0, 1);
        Due.is("cases(0, 3)", x.cases(0, 3), -2);
        Due.is("cases(0, -1)", x.cases(0, -1), -2);
        Due.is("cases(0, MIN)", x.cases(0, Integer.MIN_VALUE), -2);
        Due.is("cases(1, 0)", x.cases(1, 0), -1);
        Due.is("cases(1, 3)", x.cases(1, 3), -1);
        Due.is("cases(-1, 0)", x.cases(-1, 0), -1);
        Due.is("cases(-1, -1)", x.cases(-1, -1), -1);
        Due.is("cases(2000, 0)", x.cases(2000, 0), -1);
        Due.is("cases(MAX, 0)", x.cases(Integer.MAX_VALUE, 0), -1);
        Due.is("cases(MIN, 0)", x.cases(Integer.MIN_VALUE, 0), -1);
    }

    private static void tellsEachKindOfStep() {
        TestText x = Due.of("name a", "", "test t", "  ", "set a -3", "draw a 8 8", "wait a = 9 50", "check a = 9",
                "fault 1 on", "loop 1", "fault 1 off", "end", "cases a -999999 999999", "end", "always",
                "draw a -1 -1", "end", "test u", "set a 4");
        x.answer(1, 9, 20);
        Due.is("run()", x.run(), 0);
        Due.row(x, 0, 5, 0, -3);
        Due.row(x, 1, 6, 1, 8);
        Due.row(x, 2, 7, 20, 0);
        Due.row(x, 3, 8, 21, 0);
        Due.row(x, 4, 9, 22, 0);
        Due.row(x, 5, 10, 23, 0);
        Due.row(x, 6, 11, 24, 0);
        Due.row(x, 7, 13, 25, 0);
        Due.row(x, 8, 13, 26, -999999);
        Due.row(x, 9, 13, 27, 999999);
        Due.row(x, 10, 15, 28, 0);
        Due.row(x, 11, 16, 29, -1);
        Due.row(x, 12, 19, 0, 4);
        Due.row(x, 13, -1, -1, -1);
    }

    private static void tellsTheLastRun() {
        TestText x = Due.of("name a", "test t", "wait a = 1 3", "set a 5");
        x.run();
        Due.row(x, 0, 3, 3, 0);
        Due.row(x, 1, -1, -1, -1);
        x.answer(1, 1, 2);
        Due.row(x, 0, 3, 3, 0);
        x.run();
        Due.row(x, 0, 3, 2, 0);
        Due.row(x, 1, 4, 3, 5);
        x.answer(1, 0, 2);
        x.run();
        Due.row(x, 0, 3, 3, 0);
        Due.row(x, 1, -1, -1, -1);
    }
}
