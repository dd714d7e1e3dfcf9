/** One new object: its calls are counted, and each answer is held against the one that is due. */
final class Calls {
    /** Nothing is promised of an object beyond these. */
    private static final int MOST_CALLS = 512;

    private final TestText x = new TestText();
    private int made = 0;
    private boolean counted = true;

    /** An object that has read these lines, which must be right. */
    static Calls of(String... lines) {
        return having(String.join("\n", lines));
    }

    /** An object that has read this text, which must be right. */
    static Calls having(String text) {
        Calls calls = new Calls().signs(text);
        Due.is("read() throws", Due.reads(calls.next()) == Due.THROWS ? 1 : 0, 0);
        return calls;
    }

    /** For a boundary that only more calls reach than are promised. */
    Calls uncounted() {
        counted = false;
        return this;
    }

    private TestText next() {
        made++;
        if (counted && made == MOST_CALLS + 1) {
            Due.is("calls of one object", made, MOST_CALLS);
        }
        return x;
    }

    /** Calls that change nothing, until the object has one call left. */
    Calls untilTheLast() {
        while (made < MOST_CALLS - 1) {
            next().wrong();
        }
        return this;
    }

    Calls sign(int c) {
        next().sign(c);
        return this;
    }

    Calls signs(String text) {
        for (int i = 0; i < text.length(); i += 4) {
            int c = 0;
            for (int k = i; k < i + 4; k++) {
                c = c << 8 | (k < text.length() ? text.charAt(k) : 0);
            }
            sign(c);
        }
        return this;
    }

    /** Due.THROWS if it must throw. */
    Calls read(int due) {
        Due.is("read()", Due.reads(next()), due);
        return this;
    }

    Calls wrong(int due) {
        Due.is("wrong()", next().wrong(), due);
        return this;
    }

    Calls answer(int name, long v, long t, int due) {
        Due.is("answer(" + name + ", " + v + ", " + t + ")", next().answer(name, v, t), due);
        return this;
    }

    Calls run(int due) {
        Due.is("run()", next().run(), due);
        return this;
    }

    Calls verdict(int i, int what, int due) {
        Due.is("verdict(" + i + ", " + what + ")", next().verdict(i, what), due);
        return this;
    }

    /** Verdict, line and time of test i. */
    Calls left(int i, int verdict, int line, int time) {
        return verdict(i, 0, verdict).verdict(i, 1, line).verdict(i, 2, time);
    }

    Calls ended(int i, int due) {
        Due.is("ended(" + i + ")", next().ended(i), due);
        return this;
    }

    Calls plant(int fault, boolean on, int due) {
        Due.is("plant(" + fault + ", " + on + ")", next().plant(fault, on), due);
        return this;
    }

    Calls undoneAt(int i, int due) {
        Due.is("undone(" + i + ")", next().undone(i), due);
        return this;
    }

    /** These faults were UNDONE, and no others. */
    Calls undone(int... faults) {
        for (int i = 0; i < faults.length; i++) {
            undoneAt(i, faults[i]);
        }
        return undoneAt(faults.length, 0);
    }

    Calls differ(int run, int other, int due) {
        Due.is("differ(" + run + ", " + other + ")", next().differ(run, other), due);
        return this;
    }

    Calls cover(int kind, int of, int due) {
        Due.is("cover(" + kind + ", " + of + ")", next().cover(kind, of), due);
        return this;
    }

    Calls leastAt(int i, int due) {
        Due.is("least(" + i + ")", next().least(i), due);
        return this;
    }

    /** These tests are the least set. */
    Calls least(int... tests) {
        for (int i = 0; i < tests.length; i++) {
            leastAt(i, tests[i]);
        }
        return leastAt(tests.length, 0);
    }

    Calls seed(long s) {
        Due.is("seed(" + s + ")", next().seed(s), 1);
        return this;
    }

    Calls shorter(int due) {
        Due.is("shorter()", next().shorter(), due);
        return this;
    }

    Calls cases(int i, int what, int due) {
        Due.is("cases(" + i + ", " + what + ")", next().cases(i, what), due);
        return this;
    }

    /** Line, time and value of step i. */
    Calls row(int i, int line, int time, int value) {
        return cases(i, 0, line).cases(i, 1, time).cases(i, 2, value);
    }

    /** The last RUN did so many steps. */
    Calls steps(int count) {
        if (count > 0) {
            Due.is("cases(" + (count - 1) + ", 0) is a line", next().cases(count - 1, 0) > 0 ? 1 : 0, 1);
        }
        return cases(count, 0, -1);
    }

    /** The line of each step of the last RUN. */
    Calls lines(int... lines) {
        for (int i = 0; i < lines.length; i++) {
            cases(i, 0, lines[i]);
        }
        return cases(lines.length, 0, -1);
    }
}
