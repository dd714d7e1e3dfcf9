/** Promise 15: the steps before the first one by which a test was left. */
public final class Promise15ShorterTest {
    public static void main(String[] args) {
        TestText x = new TestText();
        Due.is("shorter()", x.shorter(), -3);
        x = Due.of("name a", "test t");
        Due.is("shorter()", x.shorter(), -3);
        x.run();
        Due.is("shorter()", x.shorter(), 0);
        shorter(3, "name a", "test t", "set a 1", "set a 2", "test u", "set a 3");
        shorter(0, "name a", "test t", "check a = 1", "set a 1");
        shorter(2, "name a", "test t", "set a 1", "set a 1", "wait a = 2 5", "set a 1", "test u", "set a 1");
        shorter(2, "name a", "test t", "set a 1", "test u", "set a 2", "check a = 1", "test v", "check a = 1");
        shorter(3, "name a", "test t", "set a 1", "always", "fault 1 on", "check a = 2", "set a 1", "end");
        shorter(1, "name a", "test t", "set a 1", "check a = 2", "always", "check a = 2", "end");
        shorter(6, "name a", "test t", "cases a 1 2 3", "check a < 3", "end", "always", "end");
        tellsTheLastRun();
        Due.close();
    }

    private static void shorter(int due, String... lines) {
        TestText x = Due.of(lines);
        x.run();
        Due.is("shorter() of " + String.join(" / ", lines), x.shorter(), due);
    }

    private static void tellsTheLastRun() {
        TestText x = Due.of("name a", "test t", "check a = 1", "check a = 1", "check a = 1");
        x.run();
        Due.is("shorter()", x.shorter(), 0);
        x.answer(1, 1, 0);
        x.answer(1, 2, 2);
        x.run();
        Due.is("shorter()", x.shorter(), 2);
        x.answer(1, 1, 2);
        x.run();
        Due.is("shorter()", x.shorter(), 3);
        Due.reads(x);
        Due.is("shorter()", x.shorter(), -3);
    }
}
