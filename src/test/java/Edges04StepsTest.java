/** The boundary cases of the steps that promise 4 finds WRONG, sentence by sentence. */
public final class Edges04StepsTest {
    private static final String HEAD = "name a\ntest t\n";

    public static void main(String[] args) {
        set();
        draw();
        waits();
        check();
        ops();
        fault();
        loop();
        cases();
        always();
        depth();
        howMany();
        noneOfThese();
        beforeAnyTest();
        ends();
        oneTooMany();
        Due.close();
    }

    private static void step(String line) {
        Due.right(1, HEAD + line);
    }

    private static void block(String line) {
        Due.right(1, HEAD + line + "\nend");
    }

    private static void none(String line) {
        Due.wrongAt(3, HEAD + line);
        Due.wrongAt(3, HEAD + line + "\nend\n");
    }

    private static void set() {
        Due.sentence(4, "set NAME NUMBER.");
        none("set");
        none("set a");
        step("set a 1");
        none("set a 1 1");
        none("set 1 a");
    }

    private static void draw() {
        Due.sentence(4, "draw NAME low high (low <= high).");
        none("draw a 1");
        none("draw a 1 2 3");
        step("draw a 4 6");
        step("draw a 5 6");
        step("draw a 6 6");
        none("draw a 7 6");
        step("draw a -7 -6");
        step("draw a -6 -6");
        none("draw a -5 -6");
        step("draw a 0 -0");
        step("draw a -999999 -999999");
        step("draw a 999999 999999");
        step("draw a -999999 999999");
        none("draw a 999999 -999999");
        none("draw a 999999 999998");
    }

    private static void waits() {
        Due.sentence(4, "wait NAME op NUMBER time (time 0 .. 1000).");
        none("wait a = 1");
        none("wait a = 1 1 1");
        none("wait a = 1 -1");
        step("wait a = 1 -0");
        step("wait a = 1 0");
        step("wait a = 1 1");
        step("wait a = 1 999");
        step("wait a = 1 1000");
        step("wait a = 1 001000");
        none("wait a = 1 1001");
        none("wait a = 1 999999");
        none("wait a = 1 -1000");
        none("wait a = 1 x");
        none("wait = a 1 1");
    }

    private static void check() {
        Due.sentence(4, "check NAME op NUMBER.");
        none("check");
        none("check a");
        none("check a =");
        step("check a = 1");
        none("check a = 1 1");
        none("check a 1 =");
        none("check a 1");
    }

    private static void ops() {
        Due.sentence(4, "op is =, <, > or !.");
        for (char c = '!'; c < 127; c++) {
            if ("=<>!".indexOf(c) >= 0) {
                step("check a " + c + " 1");
                step("wait a " + c + " 1 1");
            } else {
                none("check a " + c + " 1");
                none("wait a " + c + " 1 1");
            }
            none("check a =" + c + " 1");
            none("wait a " + c + "= 1 1");
        }
    }

    private static void fault() {
        Due.sentence(4, "fault f on, fault f off (f 1 .. 8).");
        for (String way : new String[] {" on", " off"}) {
            none("fault -1" + way);
            none("fault 0" + way);
            step("fault 1" + way);
            step("fault 2" + way);
            step("fault 7" + way);
            step("fault 8" + way);
            none("fault 9" + way);
            none("fault 999999" + way);
            none("fault" + way);
            none("fault 1" + way + " 1");
            none("fault 1" + way + "f");
            none("fault a" + way);
        }
        none("fault 1");
        none("fault 1 o");
        none("fault 1 of");
        none("fault 1 1");
    }

    private static void loop() {
        Due.sentence(4, "loop n (1 .. 20) steps end.");
        none("loop -1");
        none("loop 0");
        block("loop 1");
        block("loop 2");
        block("loop 19");
        block("loop 20");
        none("loop 21");
        none("loop 999999");
        none("loop");
        none("loop 1 1");
        none("loop a");
        Due.right(2, HEAD + "loop 1\nset a 1\nend");
    }

    private static String numbers(int n) {
        return " 1".repeat(n);
    }

    private static void cases() {
        Due.sentence(4, "cases NAME NUMBER .. (1 to 10 of them) steps end.");
        none("cases");
        none("cases a");
        block("cases a" + numbers(1));
        block("cases a" + numbers(2));
        block("cases a" + numbers(9));
        block("cases a" + numbers(10));
        none("cases a" + numbers(11));
        none("cases a" + numbers(12));
        none("cases a" + numbers(100));
        none("cases a x");
        none("cases a x" + numbers(9));
        none("cases a" + numbers(9) + " x");
        none("cases a" + numbers(10) + " x");
        none("cases" + numbers(2));
        Due.right(2, HEAD + "cases a 1\nset a 1\nend");
    }

    private static void always() {
        Due.sentence(4, "always steps end: at most once in a test, in no loop or cases, nor in itself.");
        block("always");
        none("always 1");
        none("always a");
        Due.right(2, HEAD + "always\nset a 1\nend");
        Due.wrongAt(5, HEAD + "always\nend\nalways\nend");
        Due.wrongAt(6, HEAD + "always\nend\nset a 1\nalways\nend");
        Due.right(2, HEAD + "always\nend\ntest u\nalways\nend");
        Due.wrongAt(8, HEAD + "always\nend\ntest u\nalways\nend\nalways\nend");
        Due.wrongAt(4, HEAD + "loop 1\nalways\nend\nend");
        Due.wrongAt(4, HEAD + "cases a 1\nalways\nend\nend");
        Due.wrongAt(5, HEAD + "loop 1\ncases a 1\nalways\nend\nend\nend");
        Due.wrongAt(4, HEAD + "always\nalways\nend\nend");
        Due.wrongAt(5, HEAD + "always\nloop 1\nalways\nend\nend\nend");
        Due.right(2, HEAD + "loop 1\nend\nalways\nend");
        Due.right(2, HEAD + "always\nend\ncases a 1\nend");
        Due.sentence(4, "always where it may not be");
        Due.wrongAt(2, "name a\nalways\nend");
        Due.wrongAt(6, HEAD + "loop 1\nloop 1\nend\nalways\nend\nend");
    }

    private static String nested(String first, int n, String line) {
        return HEAD + first + Due.many(n, line) + Due.many(n + (first.isEmpty() ? 0 : 1), "end");
    }

    private static void depth() {
        Due.sentence(4, "Loops and cases lie at most 8 deep (an always around them counts as one).");
        for (String line : new String[] {"loop 1", "cases a 1"}) {
            Due.right(7, nested("", 7, line));
            Due.right(8, nested("", 8, line));
            Due.wrongAt(2 + 9, nested("", 9, line));
            Due.right(7, nested("always\n", 6, line));
            Due.right(8, nested("always\n", 7, line));
            Due.wrongAt(3 + 8, nested("always\n", 8, line));
            Due.right(16, HEAD + Due.many(8, line) + Due.many(8, "end") + Due.many(8, line) + Due.many(8, "end"));
            Due.wrongAt(2 + 8 + 1 + 2, HEAD + Due.many(8, line) + "end\n" + line + "\n" + line);
            Due.right(9, HEAD + Due.many(8, line) + "set a 1\n" + Due.many(8, "end"));
        }
        Due.right(8, HEAD + Due.many(4, "loop 1\ncases a 1") + Due.many(8, "end"));
        Due.wrongAt(11, HEAD + Due.many(4, "loop 1\ncases a 1") + "loop 1\n" + Due.many(9, "end"));
        // An always that is ended, or is another test's, is around nothing.
        Due.right(9, HEAD + "always\nend\n" + Due.many(8, "loop 1") + Due.many(8, "end"));
        Due.right(9, HEAD + "always\nend\ntest u\n" + Due.many(8, "loop 1") + Due.many(8, "end"));
    }

    private static void howMany() {
        Due.sentence(4, "A test has at most 100 steps (always, loop and cases count, end does not).");
        String[] kinds = {"set a 1", "draw a 1 1", "wait a = 1 1", "check a = 1", "fault 1 on", "loop 1\nend",
            "cases a 1\nend", "always\nend"};
        for (String kind : kinds) {
            Due.right(100, HEAD + Due.many(99, "set a 1") + kind);
            Due.wrongAt(103, HEAD + Due.many(100, "set a 1") + kind);
            Due.right(101, HEAD + Due.many(100, "set a 1") + "test u\n" + kind);
        }
        Due.right(99, HEAD + Due.many(99, "loop 1\nend"));
        Due.right(100, HEAD + Due.many(100, "loop 1\nend"));
        Due.wrongAt(203, HEAD + Due.many(101, "loop 1\nend"));
        Due.right(100, HEAD + "always\n" + Due.many(99, "set a 1") + "end");
        Due.wrongAt(103, HEAD + "always\n" + Due.many(100, "set a 1") + "end");
        Due.right(100, HEAD + "loop 1\n" + Due.many(99, "set a 1") + "end");
        Due.wrongAt(103, HEAD + "loop 1\n" + Due.many(100, "set a 1") + "end");
        // A name and an empty line are no steps.
        Due.right(100, HEAD + "name b\n\n" + Due.many(100, "set a 1") + "\nname c");
    }

    private static void noneOfThese() {
        Due.sentence(4, "A line is WRONG if it is none of these, has other words, numbers out of bounds, a name that "
                + "is there already, or is not there");
        for (String line : new String[] {"oh", "a", "t", "1", "-", "=", "Set a 1", "SET a 1", "sets a 1", "se a 1",
            "ends", "en", "End", "alway", "alwayss", "loops 1", "case a 1", "on", "off", "a = 1", "set a = 1",
            "fault on", "end a", "end end", "end 1"}) {
            Due.wrongAt(3, HEAD + line);
            Due.wrongAt(4, HEAD + "loop 1\n" + line);
        }
        Due.wrongAt(3, HEAD + "name a");
        Due.wrongAt(3, HEAD + "test t");
        Due.wrongAt(3, HEAD + "set b 1");
        Due.wrongAt(3, HEAD + "set a 1000000");
    }

    private static void beforeAnyTest() {
        Due.sentence(4, "is a step before any test");
        for (String line : new String[] {"set a 1", "draw a 1 2", "wait a = 1 1", "check a = 1", "fault 1 on",
            "loop 1\nend", "cases a 1\nend", "always\nend"}) {
            Due.wrongAt(2, "name a\n" + line + "\ntest t");
            Due.right(1, "name a\ntest t\n" + line);
        }
    }

    private static void ends() {
        Due.sentence(4, "an end without what it ends, or a test's beginning, or the end of the text, while something "
                + "is not ended");
        Due.wrongAt(1, "end");
        Due.wrongAt(2, "test t\nend");
        for (String line : new String[] {"loop 1", "cases a 1", "always"}) {
            block(line);
            Due.wrongAt(5, HEAD + line + "\nend\nend");
            Due.wrongAt(4, HEAD + line + "\ntest u\nend");
            Due.wrongAt(4, HEAD + line);
            Due.right(1, HEAD + line + "\nend\ntest u");
            Due.wrongAt(6, HEAD + line + "\nend\ntest u\nend");
        }
        Due.wrongAt(6, HEAD + "loop 1\nloop 1\nend\ntest u");
        Due.wrongAt(6, HEAD + "always\nloop 1\nend");
        Due.wrongAt(7, HEAD + "always\nloop 1\nend\nend\nend");
    }

    private static void oneTooMany() {
        Due.sentence(4, "or one too many");
        // The first that is too many is the line that is wrong, not one behind it.
        Due.wrongAt(21, Due.names(20) + "name w\nname x");
        Due.wrongAt(103, HEAD + Due.many(102, "set a 1"));
        Due.wrongAt(11, HEAD + Due.many(10, "loop 1"));
        Due.wrongAt(5, HEAD + "always\nend\nalways\nend\nalways\nend");
    }
}
