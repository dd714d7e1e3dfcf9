/** The boundary cases of promise 3, sentence by sentence. */
public final class Edges03ReadTest {
    private static final String SOME = "name a\ntest t\nfault 1 on\ndraw a 0 65535\nalways\nend";

    public static void main(String[] args) {
        isEmptyThen();
        howManySteps();
        noRuns();
        answersGone();
        faultsGone();
        seedStays();
        throwsWhenWrong();
        noTestsAndValues();
        Due.close();
    }

    private static void isEmptyThen() {
        Due.sentence(3, "Reads the text, which is empty then");
        new Calls().read(0).read(0);
        new Calls().signs(SOME).read(3).read(0).run(-3).answer(1, 0, 0, -1).leastAt(0, 0);
        new Calls().signs("oh").read(Due.THROWS).read(0).wrong(0);
        // The first line of the next text is 1 again, and no sign of the last one stands before it.
        new Calls().signs("\n\n").read(0).signs("\noh").read(Due.THROWS).wrong(2);
        new Calls().signs("na").read(Due.THROWS).signs("me a").read(Due.THROWS).wrong(1);
        // Of a longer text before it nothing stands behind a shorter one, either.
        for (char c : new char[] {'\n', 'x', ' '}) {
            new Calls().signs(("" + c).repeat(50)).read(c == 'x' ? Due.THROWS : 0).signs("test t\nloop 1")
                    .read(Due.THROWS).wrong(3).signs("test t").read(0).wrong(0).read(0).wrong(0);
        }
        // Names of the last text are free.
        new Calls().signs("name a\ntest b").read(0).signs("name b\ntest a").read(0).wrong(0);
    }

    private static void howManySteps() {
        Due.sentence(3, "how many steps all tests have");
        Due.right(0, "");
        Due.right(0, "\n");
        Due.right(0, " ");
        Due.right(0, "name a");
        Due.right(0, "test t");
        Due.right(0, "test t\ntest u\n");
        Due.right(1, "test t\nfault 1 on");
        Due.right(1, "test t\ntest u\nfault 1 on\ntest v");
        Due.right(1, "test t\nalways\nend");
        Due.right(1, "test t\nloop 20\nend");
        Due.right(1, "name a\ntest t\ncases a 1 2 3\nend");
        Due.right(2, "test t\nloop 20\nfault 1 on\nend");
        Due.right(99, "test t\n" + Due.many(99, "fault 1 on"));
        Due.right(100, "test t\n" + Due.many(100, "fault 1 on"));
        StringBuilder all = new StringBuilder("name a\n");
        for (char c = 'a'; c < 'a' + 12; c++) {
            all.append("test t").append(c).append('\n').append(Due.many(20, "set a 1"));
        }
        Due.right(240, all.toString());
    }

    private static Calls withRuns() {
        return Calls.having(SOME).run(0).run(0).undone(1).ended(1, 2).cover(2, 0, 6).cover(0, 1, 3);
    }

    private static void noRuns() {
        Due.sentence(3, "there were no RUNS");
        for (String text : new String[] {"", "oh", SOME}) {
            Calls x = withRuns().signs(text).read(text.equals(SOME) ? 3 : text.isEmpty() ? 0 : Due.THROWS);
            x.shorter(-3).cases(0, 0, -1).undoneAt(0, 0).differ(1, 1, -2).differ(1, 2, -2).cover(2, 0, 0);
        }
        Calls x = withRuns().signs(SOME).read(3).verdict(1, 0, -3).ended(1, 0).cover(0, 1, 0);
        for (int i = 0; i < 8; i++) {
            x.run(0);
        }
        x.run(-4).signs(SOME).read(3).run(0).differ(1, 1, -1).differ(1, 2, -2).ended(1, 1).cover(2, 0, 3);
        // What a RUN tells is not mixed with what one of the same number did before the read().
        String left = "name a\ntest t\nfault 1 on\nfault 2 on\ncheck a = 1\nfault 3 on";
        Calls.having(left).run(2).undone(1, 2).shorter(2).signs("test t\nfault 4 on\nfault 5 off").read(2).run(0)
                .undone(4).undoneAt(2, 0).shorter(2).lines(2, 3).left(1, 0, 0, 2).cover(2, 0, 2);
        Calls.having(left).run(2).run(2).signs("test t").read(0).run(0).undone().undoneAt(1, 0).shorter(0).steps(0)
                .run(0).differ(1, 2, -1).cover(2, 0, 0);
    }

    private static void answersGone() {
        Due.sentence(3, "answers and faults from outside are gone (in any case");
        String text = "name a\ntest t\ncheck a = 0";
        Calls.having(text).answer(1, 0, 0, 1).run(0).signs(text).read(1).run(2).answer(1, 0, 0, 1).run(0);
        Calls.having(text).answer(1, 0, 0, 1).read(0).signs(text).read(1).run(2);
        Calls.having(text).answer(1, 0, 0, 1).signs("oh").read(Due.THROWS).answer(1, 0, 0, -1).signs(text).read(1)
                .run(2);
        Calls x = Calls.having(text);
        for (int i = 1; i <= 200; i++) {
            x.answer(1, i, i, i);
        }
        x.answer(1, 0, 0, -4).signs(text).read(1).answer(1, 0, 0, 1).run(0);
    }

    private static void faultsGone() {
        Due.sentence(3, "answers and faults from outside are gone (in any case");
        for (String text : new String[] {"", "oh", "test t\nloop 1", "test u"}) {
            Calls x = Calls.of("test t");
            for (int f = 1; f <= 8; f++) {
                x.plant(f, true, f);
            }
            x.signs(text);
            x.read(text.isEmpty() || text.equals("test u") ? 0 : Due.THROWS);
            x.plant(8, false, 0).plant(8, true, 1);
        }
        Calls.of("test t", "fault 1 on").plant(1, true, 1).run(0).undone().signs("test t\nfault 1 on").read(1).run(0)
                .undone(1);
        // A fault that is planted before the first read() is gone behind it, too.
        new Calls().plant(1, true, 1).signs("test t\nfault 1 on").read(1).run(0).undone(1);
    }

    private static void seedStays() {
        Due.sentence(3, "the SEED stays");
        String text = "name a\ntest t\ndraw a 0 65535";
        int first = (int) ((3000000000L * 25173 + 13849) % (1L << 32) / 65536);
        Calls.having(text).seed(3000000000L).signs(text).read(1).run(0).cases(0, 2, first);
        Calls.having(text).seed(3000000000L).run(0).signs(text).read(1).run(0).cases(0, 2, first);
        Calls.having(text).seed(3000000000L).read(0).signs(text).read(1).run(0).cases(0, 2, first);
        Calls.having(text).seed(3000000000L).signs("oh").read(Due.THROWS).signs(text).read(1).run(0)
                .cases(0, 2, first);
        new Calls().seed(3000000000L).signs(text).read(1).run(0).cases(0, 2, first);
    }

    private static void throwsWhenWrong() {
        Due.sentence(3, "IllegalStateException when a line is WRONG");
        new Calls().signs("oh\n" + SOME).read(Due.THROWS).wrong(1);
        new Calls().signs(SOME + "\noh").read(Due.THROWS).wrong(7);
        new Calls().signs(SOME + "\nend").read(Due.THROWS).wrong(7);
        new Calls().signs(SOME + "\nloop 1").read(Due.THROWS).wrong(8);
        new Calls().signs(SOME).read(3).wrong(0);
    }

    private static void noTestsAndValues() {
        Due.sentence(3, "then there are no tests and values (see wrong())");
        for (String wrong : new String[] {"oh", SOME + "\noh", SOME + "\nloop 1"}) {
            Calls x = Calls.having(SOME).answer(1, 1, 1, 1).signs(wrong).read(Due.THROWS);
            x.run(-3).verdict(1, 0, -1).ended(1, -1).answer(1, 1, 1, -1).cover(0, 1, -1).cover(1, 1, -1);
            x.leastAt(0, 0).signs(SOME).read(3).run(0);
        }
    }
}
