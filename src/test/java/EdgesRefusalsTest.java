import java.util.ArrayList;
import java.util.List;
import java.util.function.Supplier;
import java.util.function.ToIntFunction;

/**
 * REFUSALS change nothing: an object that refuses a call is held against one that was never asked, in all that
 * the two tell then, and behind further calls.
 */
public final class EdgesRefusalsTest {
    private static final String TEXT = "name a\nname b\ntest t\ndraw a 0 65535\ncheck b = 5\nfault 1 on\n"
            + "test u\nset b 1\nalways\nfault 3 on\nfault 2 on\nend\n";

    private record Refusal(String call, int due, ToIntFunction<TestText> ask) {
    }

    public static void main(String[] args) {
        Due.sentence(4, "REFUSALS change nothing and answer, the first that fits: -1 an unknown number, -2 outside a "
                + "range, -3 not in this state, -4 no room.");
        changeNothing(EdgesRefusalsTest::isNew, forAll(), ofNoText());
        changeNothing(EdgesRefusalsTest::hasRead, forAll(), ofText(), ofNoRun());
        changeNothing(EdgesRefusalsTest::hasRun, forAll(), ofText(), ofRuns());
        changeNothing(EdgesRefusalsTest::isFull, forAll(), ofText(), ofRuns(), ofNoRoom());
        changeNothing(EdgesRefusalsTest::wasWrong, forAll(), ofNoText());
        Due.close();
    }

    private static TestText isNew() {
        TestText x = new TestText();
        x.seed(99);
        x.plant(3, true);
        Due.type(x, TEXT);
        return x;
    }

    private static TestText hasRead() {
        TestText x = isNew();
        Due.reads(x);
        x.answer(2, 5, 1);
        x.answer(2, 6, 3);
        x.plant(3, true);
        // Signs of the next text, which is not read yet.
        Due.type(x, "name c\ntest v\ndraw c 0 65535\n");
        return x;
    }

    private static TestText hasRun() {
        TestText x = hasRead();
        x.run();
        x.seed(7777777);
        x.run();
        x.seed(8888888);
        return x;
    }

    private static TestText isFull() {
        TestText x = hasRun();
        for (int i = 3; i <= 200; i++) {
            x.answer(1, i, i);
        }
        for (int i = 3; i <= 8; i++) {
            x.run();
        }
        x.plant(2, true);
        return x;
    }

    private static TestText wasWrong() {
        TestText x = hasRun();
        Due.type(x, "oh");
        Due.reads(x);
        x.plant(3, true);
        Due.type(x, "name c\ntest v\ndraw c 0 65535\n");
        return x;
    }

    private static void add(List<Refusal> all, String call, int due, ToIntFunction<TestText> ask) {
        all.add(new Refusal(call, due, ask));
    }

    /** Refused whatever there is. */
    private static List<Refusal> forAll() {
        List<Refusal> all = new ArrayList<>();
        for (int none : new int[] {0, 21, -1, Integer.MIN_VALUE, Integer.MAX_VALUE}) {
            add(all, "answer of value " + none, -1, x -> x.answer(none, 1, 1));
            add(all, "answer of value " + none + " and range", -1, x -> x.answer(none, 1000000, -1));
            add(all, "verdict of test " + none, -1, x -> x.verdict(none, 0));
            add(all, "verdict of test " + none + " and what", -1, x -> x.verdict(none, 3));
            add(all, "ended of test " + none, -1, x -> x.ended(none));
            add(all, "plant of fault " + none, -1, x -> x.plant(none, true));
            add(all, "no plant of fault " + none, -1, x -> x.plant(none, false));
            add(all, "differ from RUN " + none, -2, x -> x.differ(1, none));
            add(all, "differ of RUN " + none, -2, x -> x.differ(none, 1));
            add(all, "cover of test " + none, -1, x -> x.cover(0, none));
            add(all, "cover of value " + none, -1, x -> x.cover(1, none));
        }
        for (int none : new int[] {-1, 3, Integer.MIN_VALUE, Integer.MAX_VALUE}) {
            add(all, "cover of kind " + none, -2, x -> x.cover(none, 1));
        }
        for (int none : new int[] {-1, 2000, Integer.MIN_VALUE, Integer.MAX_VALUE}) {
            add(all, "cases of step " + none, -1, x -> x.cases(none, 0));
            add(all, "cases of step " + none + " and what", -1, x -> x.cases(none, 3));
        }
        return all;
    }

    private static List<Refusal> ofNoText() {
        List<Refusal> all = ofNoRun();
        all.removeIf(one -> one.call.startsWith("verdict"));
        add(all, "run", -3, TestText::run);
        add(all, "answer", -1, x -> x.answer(1, 1, 1));
        add(all, "answer of no value", -1, x -> x.answer(1, 1000000, 1));
        add(all, "verdict", -1, x -> x.verdict(1, 0));
        add(all, "ended", -1, x -> x.ended(1));
        add(all, "cover of no test", -1, x -> x.cover(0, 1));
        add(all, "cover of no value", -1, x -> x.cover(1, 1));
        return all;
    }

    private static List<Refusal> ofText() {
        List<Refusal> all = new ArrayList<>();
        for (long far : new long[] {1000000, -1000000, 1L << 32, Long.MIN_VALUE, Long.MAX_VALUE}) {
            add(all, "answer of " + far, -2, x -> x.answer(1, far, 1));
            add(all, "answer of time " + far, -2, x -> x.answer(1, 1, far));
        }
        add(all, "answer of time -1", -2, x -> x.answer(2, 1, -1));
        add(all, "answer of time 100001", -2, x -> x.answer(2, 1, 100001));
        add(all, "answer of value 3", -1, x -> x.answer(3, 1, 1));
        for (int none : new int[] {-1, 3, Integer.MIN_VALUE, Integer.MAX_VALUE}) {
            add(all, "verdict of what " + none, -2, x -> x.verdict(2, none));
        }
        return all;
    }

    private static List<Refusal> ofNoRun() {
        List<Refusal> all = new ArrayList<>();
        for (int what = 0; what <= 2; what++) {
            int one = what;
            add(all, "verdict of what " + one, -3, x -> x.verdict(2, one));
            add(all, "cases of what " + one, -1, x -> x.cases(0, one));
        }
        add(all, "cases of what 3", -1, x -> x.cases(0, 3));
        add(all, "shorter", -3, TestText::shorter);
        add(all, "differ", -2, x -> x.differ(1, 1));
        return all;
    }

    private static List<Refusal> ofRuns() {
        List<Refusal> all = new ArrayList<>();
        for (int none : new int[] {-1, 3, Integer.MIN_VALUE, Integer.MAX_VALUE}) {
            add(all, "cases of what " + none, -2, x -> x.cases(0, none));
        }
        add(all, "differ from the next RUN", -2, x -> x.differ(1, 9));
        return all;
    }

    private static List<Refusal> ofNoRoom() {
        List<Refusal> all = new ArrayList<>();
        add(all, "run", -4, TestText::run);
        add(all, "answer", -4, x -> x.answer(1, 1, 1));
        add(all, "answer of a time that has one", -4, x -> x.answer(2, 9, 1));
        return all;
    }

    @SafeVarargs
    private static void changeNothing(Supplier<TestText> state, List<Refusal>... refusals) {
        List<Integer> due = toldNowAndLater(state.get());
        for (List<Refusal> some : refusals) {
            for (Refusal one : some) {
                TestText x = state.get();
                Due.is(one.call, one.ask.applyAsInt(x), one.due);
                Due.is(one.call + ", again", one.ask.applyAsInt(x), one.due);
                List<Integer> told = toldNowAndLater(x);
                Due.is("what is told behind " + one.call + " is the same", told.equals(due) ? 1 : 0, 1);
            }
        }
    }

    private static List<Integer> toldNowAndLater(TestText x) {
        List<Integer> told = new ArrayList<>();
        tell(x, told);
        told.add(x.answer(1, 5, 2));
        told.add(x.plant(8, true));
        told.add(x.run());
        tell(x, told);
        told.add(Due.reads(x));
        told.add(x.plant(7, true));
        told.add(x.answer(1, 5, 2));
        told.add(x.run());
        tell(x, told);
        return told;
    }

    private static void tell(TestText x, List<Integer> told) {
        told.add(x.wrong());
        told.add(x.shorter());
        for (int i = 1; i <= 2; i++) {
            for (int what = 0; what <= 2; what++) {
                told.add(x.verdict(i, what));
            }
            told.add(x.ended(i));
            told.add(x.cover(0, i));
            told.add(x.cover(1, i));
            told.add(x.differ(1, i));
            told.add(x.least(i - 1));
            told.add(x.undone(i - 1));
        }
        told.add(x.differ(1, 8));
        told.add(x.cover(2, 0));
        for (int i = 0; i < 9; i++) {
            for (int what = 0; what <= 2; what++) {
                told.add(x.cases(i, what));
            }
        }
    }
}
