import java.util.ArrayList;
import java.util.Arrays;

/**
 * Tests in a text: values that are set, awaited and checked, loops, tables of cases, faults planted
 * and taken back, parts that are done however a test is left, drawn numbers; verdicts, rows of what
 * was done, coverage, the least set of tests.
 */
public final class TestText {
    private static final int MOST_SIGNS = 4000;
    private static final int MOST_VALUES = 20;
    private static final int MOST_TESTS = 12;
    private static final int MOST_STEPS_OF_TEST = 100;
    private static final int MOST_DEEP = 8;
    private static final int MOST_NUMBERS = 10;
    private static final int MOST_WORDS = MOST_NUMBERS + 2;
    private static final int MOST_LETTERS = 8;
    private static final int MOST_DIGITS = 6;
    private static final int MOST_TIMES_LOOPED = 20;
    private static final int MOST_TIME_WAITED = 1000;
    private static final int MOST_FAULTS = 8;
    private static final int MOST_ANSWERS = 200;
    private static final int LAST_ANSWER_TIME = 100000;
    private static final int GREATEST_VALUE = 999999;
    private static final int MOST_RUNS = 8;
    private static final int MOST_STEPS_OF_RUN = 2000;
    private static final int MOST_UNDONE = 100;

    private static final int LAST_SIGN = 127;
    private static final int LINE_END = 10;
    private static final int SPACE = 32;

    private static final int UNKNOWN_NUMBER = -1;
    private static final int OUTSIDE_RANGE = -2;
    private static final int NOT_IN_THIS_STATE = -3;
    private static final int NO_ROOM = -4;

    private static final int PASSED = 0;
    private static final int FAILED = 1;
    private static final int ERROR = 2;

    private static final int NO_STEP = 0;
    private static final int SET = 1;
    private static final int DRAW = 2;
    private static final int WAIT = 3;
    private static final int CHECK = 4;
    private static final int FAULT = 5;
    private static final int LOOP = 6;
    private static final int CASES = 7;
    private static final int ALWAYS = 8;

    /** Stands for a number or a value that is not there: below all that a text or an answer can tell. */
    private static final int NOT_KNOWN = -1000000;
    private static final int NONE = -1;

    private static final long FIRST_SEED = 1;
    private static final long LOWEST_32_BITS = 0xFFFFFFFFL;

    private final byte[] signs;
    private int signCount;
    private Plan plan;
    private int wrongLine;
    private final Answers answers;
    private int planted;
    private long seedOfRuns;
    private final Trace[] traces;
    private int runCount;

    public TestText() {
        signs = new byte[MOST_SIGNS];
        signCount = 0;
        plan = new Plan();
        wrongLine = 0;
        answers = new Answers();
        planted = 0;
        seedOfRuns = FIRST_SEED;
        traces = new Trace[MOST_RUNS];
        runCount = 0;
    }

    public void sign(int c) {
        addSign(c >>> 24);
        addSign((c >>> 16) & 255);
        addSign((c >>> 8) & 255);
        addSign(c & 255);
    }

    private void addSign(int s) {
        if (s >= 1 && s <= LAST_SIGN && signCount < MOST_SIGNS) {
            signs[signCount] = (byte) s;
            signCount++;
        }
    }

    public int read() throws IllegalStateException {
        plan = new Plan();
        answers.forget();
        planted = 0;
        runCount = 0;
        wrongLine = new Reader(plan, signs).readLines(signCount);
        signCount = 0;
        if (wrongLine > 0) {
            plan = new Plan();
            throw new IllegalStateException("a line is wrong");
        }
        plan.findLeast();
        return plan.steps.size();
    }

    public int wrong() {
        return wrongLine;
    }

    public int answer(int name, long v, long t) {
        if (!plan.hasValue(name)) {
            return UNKNOWN_NUMBER;
        }
        if (v < -GREATEST_VALUE || v > GREATEST_VALUE || t < 0 || t > LAST_ANSWER_TIME) {
            return OUTSIDE_RANGE;
        }
        if (answers.told >= MOST_ANSWERS) {
            return NO_ROOM;
        }
        answers.tell(name, (int) v, (int) t);
        return answers.told;
    }

    public int run() {
        if (plan.tests.isEmpty()) {
            return NOT_IN_THIS_STATE;
        }
        Trace trace = beginTrace();
        if (trace == null) {
            return NO_ROOM;
        }
        Runner runner = new Runner(plan, answers, trace, seedOfRuns, planted);
        int greatest = PASSED;
        for (int i = 0; i < plan.tests.size(); i++) {
            Test test = plan.tests.get(i);
            runner.doTest(test);
            greatest = Math.max(greatest, test.verdict);
        }
        return greatest;
    }

    /** Null if there is no room. Traces outlive a read(), so that texts read in turn do not fill it. */
    private Trace beginTrace() {
        if (runCount >= MOST_RUNS) {
            return null;
        }
        if (traces[runCount] == null) {
            traces[runCount] = new Trace();
        }
        Trace trace = traces[runCount];
        trace.forget();
        runCount++;
        return trace;
    }

    public int verdict(int i, int what) {
        Test test = plan.testOf(i);
        if (test == null) {
            return UNKNOWN_NUMBER;
        }
        if (what < 0 || what > 2) {
            return OUTSIDE_RANGE;
        }
        if (runCount == 0) {
            return NOT_IN_THIS_STATE;
        }
        if (what == 0) {
            return test.verdict;
        }
        return what == 1 ? test.leftLine : test.leftTime;
    }

    public int ended(int i) {
        Test test = plan.testOf(i);
        return test == null ? UNKNOWN_NUMBER : test.alwaysBegun;
    }

    public int plant(int fault, boolean on) {
        if (fault < 1 || fault > MOST_FAULTS) {
            return UNKNOWN_NUMBER;
        }
        planted = on ? planted | 1 << fault : planted & ~(1 << fault);
        return Integer.bitCount(planted);
    }

    public int undone(int i) {
        Trace trace = traceOf(runCount);
        return trace == null ? 0 : trace.undoneAt(i);
    }

    public int differ(int run, int other) {
        Trace one = traceOf(run);
        Trace two = traceOf(other);
        if (one == null || two == null) {
            return OUTSIDE_RANGE;
        }
        return one.firstDifference(two);
    }

    public int cover(int kind, int of) {
        switch (kind) {
            case 0:
                Test test = plan.testOf(of);
                return test == null ? UNKNOWN_NUMBER : plan.countBegun(test);
            case 1:
                return plan.hasValue(of) ? plan.countTestsNaming(of) : UNKNOWN_NUMBER;
            case 2:
                return countStepsOfRuns();
            default:
                return OUTSIDE_RANGE;
        }
    }

    private int countStepsOfRuns() {
        int steps = 0;
        for (int run = 1; run <= runCount; run++) {
            Trace trace = traceOf(run);
            if (trace != null) {
                steps += trace.count;
            }
        }
        return steps;
    }

    public int least(int i) {
        return plan.leastAt(i);
    }

    public int seed(long s) {
        seedOfRuns = s & LOWEST_32_BITS;
        return 1;
    }

    public int shorter() {
        Trace trace = traceOf(runCount);
        if (trace == null) {
            return NOT_IN_THIS_STATE;
        }
        return trace.firstLeft == NONE ? trace.count : trace.firstLeft;
    }

    public int cases(int i, int what) {
        Trace trace = traceOf(runCount);
        if (trace == null || !trace.hasStep(i)) {
            return UNKNOWN_NUMBER;
        }
        if (what < 0 || what > 2) {
            return OUTSIDE_RANGE;
        }
        if (what == 0) {
            return trace.lines[i];
        }
        return what == 1 ? trace.times[i] : trace.values[i];
    }

    /** The RUN of this number, null if there was none. */
    private Trace traceOf(int run) {
        return run < 1 || run > runCount || run > MOST_RUNS ? null : traces[run - 1];
    }

    /** A step of the text. */
    private static final class Step {
        final int kind;
        final int line;
        /** The number of the value that it names, 0 if it names none. */
        int value;
        int op;
        /** What is set, compared with, the lowest drawn, the fault, how often a loop goes round. */
        int number;
        /** The highest drawn, the time of a wait, 1 for a fault that goes on. */
        int second;
        /** The numbers of a table of cases. */
        int[] numbers;
        /** The place behind it and all that lies in it. */
        int behind;
        boolean begun;

        Step(int kind, int line, int place) {
            this.kind = kind;
            this.line = line;
            numbers = new int[0];
            behind = place + 1;
        }

        boolean holds(int is) {
            switch (op) {
                case '=':
                    return is == number;
                case '<':
                    return is < number;
                case '>':
                    return is > number;
                default:
                    return is != number;
            }
        }
    }

    /** A test of the text, and how it did in the last RUN. */
    private static final class Test {
        final long key;
        final int first;
        /** The place behind its last step. */
        int behind;
        /** The place of its always, or NONE. */
        int always;
        /** A bit for each value that its steps name. */
        int named;
        int alwaysBegun;
        int verdict;
        int leftLine;
        int leftTime;

        Test(long key, int first) {
            this.key = key;
            this.first = first;
            behind = first;
            always = NONE;
        }

        void take(Step step) {
            behind++;
            if (step.value > 0) {
                named |= 1 << step.value;
            }
        }

        void beginAnew() {
            verdict = PASSED;
            leftLine = 0;
            leftTime = 0;
        }
    }

    /** The values, tests and steps that a text tells. */
    private static final class Plan {
        final long[] valueKeys;
        int valueCount;
        final ArrayList<Test> tests;
        final ArrayList<Step> steps;
        final int[] least;
        int leastCount;

        Plan() {
            valueKeys = new long[MOST_VALUES];
            tests = new ArrayList<Test>();
            steps = new ArrayList<Step>();
            least = new int[MOST_TESTS];
        }

        boolean hasValue(int value) {
            return value >= 1 && value <= valueCount;
        }

        /** The test of this number, null if there is none. */
        Test testOf(int number) {
            return number < 1 || number > tests.size() ? null : tests.get(number - 1);
        }

        /** The number of the value with this name, 0 if there is none. */
        int valueOf(long key) {
            for (int i = 0; i < valueCount; i++) {
                if (valueKeys[i] == key) {
                    return i + 1;
                }
            }
            return 0;
        }

        boolean isTaken(long key) {
            for (int i = 0; i < tests.size(); i++) {
                if (tests.get(i).key == key) {
                    return true;
                }
            }
            return valueOf(key) > 0;
        }

        int countBegun(Test test) {
            int begun = 0;
            for (int i = test.first; i < test.behind && i < steps.size(); i++) {
                if (steps.get(i).begun) {
                    begun++;
                }
            }
            return begun;
        }

        int countTestsNaming(int value) {
            int naming = 0;
            for (int i = 0; i < tests.size(); i++) {
                if ((tests.get(i).named & 1 << value) != 0) {
                    naming++;
                }
            }
            return naming;
        }

        int leastAt(int i) {
            return i < 0 || i >= leastCount ? 0 : least[i];
        }

        /**
         * The first test is the highest bit of a set: of two sets of as many tests the greater is the
         * first by their numbers, so that going downwards meets it first.
         */
        void findLeast() {
            int all = (1 << tests.size()) - 1;
            int wanted = namedBy(all);
            int best = all;
            for (int set = all; set >= 0; set--) {
                if (Integer.bitCount(set) < Integer.bitCount(best) && namedBy(set) == wanted) {
                    best = set;
                }
            }
            leastCount = 0;
            for (int i = 0; i < tests.size() && leastCount < least.length; i++) {
                if (isIn(best, i)) {
                    least[leastCount] = i + 1;
                    leastCount++;
                }
            }
        }

        private boolean isIn(int set, int i) {
            return (set & 1 << (tests.size() - 1 - i)) != 0;
        }

        private int namedBy(int set) {
            int named = 0;
            for (int i = 0; i < tests.size(); i++) {
                if (isIn(set, i)) {
                    named |= tests.get(i).named;
                }
            }
            return named;
        }
    }

    /** The words of one line of the text. */
    private static final class Words {
        private final byte[] signs;
        private final int[] begins;
        private final int[] ends;
        /** At most one more than any line may have. */
        int count;

        Words(byte[] signs) {
            this.signs = signs;
            begins = new int[MOST_WORDS + 1];
            ends = new int[MOST_WORDS + 1];
        }

        void split(int from, int to) {
            count = 0;
            boolean inWord = false;
            for (int i = from; i < to && i < signs.length && count <= MOST_WORDS; i++) {
                boolean space = signs[i] == SPACE;
                if (!space && !inWord) {
                    begins[count] = i;
                    count++;
                }
                if (!space && count > 0) {
                    ends[count - 1] = i + 1;
                }
                inWord = !space;
            }
        }

        private boolean has(int word) {
            return word >= 0 && word < count && word < MOST_WORDS;
        }

        boolean is(int word, String text) {
            if (!has(word) || ends[word] - begins[word] != text.length()) {
                return false;
            }
            for (int i = 0; i < text.length(); i++) {
                if (signs[begins[word] + i] != text.charAt(i)) {
                    return false;
                }
            }
            return true;
        }

        /** A NAME as a number of its own (its letters are digits from 1 on), 0 if it is none. */
        long nameAt(int word) {
            if (!has(word) || ends[word] - begins[word] > MOST_LETTERS) {
                return 0;
            }
            long key = 0;
            for (int i = begins[word]; i < ends[word]; i++) {
                if (signs[i] < 'a' || signs[i] > 'z') {
                    return 0;
                }
                key = key * 27 + (signs[i] - 'a' + 1);
            }
            return key;
        }

        int numberAt(int word) {
            if (!has(word)) {
                return NOT_KNOWN;
            }
            boolean minus = signs[begins[word]] == '-';
            int from = minus ? begins[word] + 1 : begins[word];
            int digits = ends[word] - from;
            if (digits < 1 || digits > MOST_DIGITS) {
                return NOT_KNOWN;
            }
            int number = 0;
            for (int i = from; i < ends[word]; i++) {
                if (signs[i] < '0' || signs[i] > '9') {
                    return NOT_KNOWN;
                }
                number = number * 10 + (signs[i] - '0');
            }
            return minus ? -number : number;
        }

        /** The sign =, <, > or !, 0 if the word is none of them. */
        int opAt(int word) {
            boolean op = is(word, "=") || is(word, "<") || is(word, ">") || is(word, "!");
            return op ? signs[begins[word]] : 0;
        }
    }

    /** Reads the lines of a text into a plan. */
    private static final class Reader {
        private final Plan plan;
        private final byte[] signs;
        private final Words words;
        /** The test whose steps are being read, null before any. */
        private Test test;
        /** The places of the steps that are not ended, the outermost first. */
        private final int[] open;
        private int depth;

        Reader(Plan plan, byte[] signs) {
            this.plan = plan;
            this.signs = signs;
            words = new Words(signs);
            open = new int[MOST_DEEP];
        }

        /** The first line that is wrong, 0 if there is none. */
        int readLines(int signCount) {
            int line = 0;
            int from = 0;
            for (int i = 0; i < signCount && i < signs.length; i++) {
                boolean ends = signs[i] == LINE_END;
                if (ends || i == signCount - 1) {
                    line++;
                    words.split(from, ends ? i : i + 1);
                    from = i + 1;
                    if (words.count > 0 && !takeLine(line)) {
                        return line;
                    }
                }
            }
            return depth > 0 ? line + 1 : 0;
        }

        private boolean takeLine(int line) {
            if (words.is(0, "name")) {
                return takeName();
            }
            if (words.is(0, "test")) {
                return takeTest();
            }
            if (words.is(0, "end")) {
                return takeEnd();
            }
            if (test == null || test.behind - test.first >= MOST_STEPS_OF_TEST) {
                return false;
            }
            Step step = new Step(kindOfStep(), line, plan.steps.size());
            if (!fill(step)) {
                return false;
            }
            test.take(step);
            plan.steps.add(step);
            return true;
        }

        private boolean takeName() {
            long key = words.nameAt(1);
            if (words.count != 2 || key == 0 || plan.isTaken(key) || plan.valueCount >= MOST_VALUES) {
                return false;
            }
            plan.valueKeys[plan.valueCount] = key;
            plan.valueCount++;
            return true;
        }

        private boolean takeTest() {
            long key = words.nameAt(1);
            if (words.count != 2 || key == 0 || plan.isTaken(key)) {
                return false;
            }
            if (depth > 0 || plan.tests.size() >= MOST_TESTS) {
                return false;
            }
            test = new Test(key, plan.steps.size());
            plan.tests.add(test);
            return true;
        }

        private boolean takeEnd() {
            if (words.count != 1 || depth < 1 || open[depth - 1] >= plan.steps.size()) {
                return false;
            }
            depth--;
            plan.steps.get(open[depth]).behind = plan.steps.size();
            return true;
        }

        private int kindOfStep() {
            if (words.is(0, "set")) {
                return SET;
            }
            if (words.is(0, "draw")) {
                return DRAW;
            }
            if (words.is(0, "wait")) {
                return WAIT;
            }
            if (words.is(0, "check")) {
                return CHECK;
            }
            if (words.is(0, "fault")) {
                return FAULT;
            }
            if (words.is(0, "loop")) {
                return LOOP;
            }
            if (words.is(0, "cases")) {
                return CASES;
            }
            return words.is(0, "always") ? ALWAYS : NO_STEP;
        }

        private boolean fill(Step step) {
            switch (step.kind) {
                case SET:
                    return words.count == 3 && takeValue(step) && takeNumber(step, 2);
                case DRAW:
                    return words.count == 4 && takeValue(step) && takeNumber(step, 2)
                            && takeSecond(step, 3, step.number, GREATEST_VALUE);
                case WAIT:
                    return words.count == 5 && takeComparison(step)
                            && takeSecond(step, 4, 0, MOST_TIME_WAITED);
                case CHECK:
                    return words.count == 4 && takeComparison(step);
                case FAULT:
                    return words.count == 3 && takeFault(step);
                case LOOP:
                    return words.count == 2 && takeTimesLooped(step) && openBlock();
                case CASES:
                    return takeValue(step) && takeNumbers(step) && openBlock();
                case ALWAYS:
                    return words.count == 1 && takeAlways();
                default:
                    return false;
            }
        }

        private boolean takeValue(Step step) {
            step.value = plan.valueOf(words.nameAt(1));
            return step.value > 0;
        }

        private boolean takeNumber(Step step, int word) {
            step.number = words.numberAt(word);
            return step.number != NOT_KNOWN;
        }

        private boolean takeSecond(Step step, int word, int lowest, int highest) {
            step.second = words.numberAt(word);
            return step.second >= lowest && step.second <= highest;
        }

        private boolean takeComparison(Step step) {
            step.op = words.opAt(2);
            return step.op != 0 && takeValue(step) && takeNumber(step, 3);
        }

        private boolean takeFault(Step step) {
            boolean on = words.is(2, "on");
            step.second = on ? 1 : 0;
            return takeNumber(step, 1) && step.number >= 1 && step.number <= MOST_FAULTS
                    && (on || words.is(2, "off"));
        }

        private boolean takeTimesLooped(Step step) {
            return takeNumber(step, 1) && step.number >= 1 && step.number <= MOST_TIMES_LOOPED;
        }

        private boolean takeNumbers(Step step) {
            int many = words.count - 2;
            if (many < 1 || many > MOST_NUMBERS) {
                return false;
            }
            int[] numbers = new int[many];
            for (int i = 0; i < many; i++) {
                numbers[i] = words.numberAt(i + 2);
                if (numbers[i] == NOT_KNOWN) {
                    return false;
                }
            }
            step.numbers = numbers;
            return true;
        }

        private boolean takeAlways() {
            if (test == null || depth > 0 || test.always != NONE) {
                return false;
            }
            test.always = plan.steps.size();
            return openBlock();
        }

        /** The step that is being read lies behind all others, so its place is their number. */
        private boolean openBlock() {
            if (depth >= MOST_DEEP) {
                return false;
            }
            open[depth] = plan.steps.size();
            depth++;
            return true;
        }
    }

    /**
     * The answers, by value and time. Of one value and time only the one told last is kept, as it
     * alone counts; the others are counted.
     */
    private static final class Answers {
        private static final int TIMES = LAST_ANSWER_TIME + 1;
        private final int[] keys;
        private final int[] values;
        private int count;
        int told;

        Answers() {
            keys = new int[MOST_ANSWERS];
            values = new int[MOST_ANSWERS];
        }

        void forget() {
            count = 0;
            told = 0;
        }

        private static int keyOf(int value, int time) {
            return value * TIMES + (time < LAST_ANSWER_TIME ? time : LAST_ANSWER_TIME);
        }

        /** How many kept answers have this key or a lower one. */
        private int countUpTo(int key) {
            int low = 0;
            int high = count;
            while (low < high) {
                int middle = (low + high) / 2;
                if (keys[middle] <= key) {
                    low = middle + 1;
                } else {
                    high = middle;
                }
            }
            return low;
        }

        void tell(int value, int is, int time) {
            int key = keyOf(value, time);
            int place = countUpTo(key);
            told++;
            if (place > 0 && keys[place - 1] == key) {
                values[place - 1] = is;
            } else if (count < MOST_ANSWERS) {
                System.arraycopy(keys, place, keys, place + 1, count - place);
                System.arraycopy(values, place, values, place + 1, count - place);
                keys[place] = key;
                values[place] = is;
                count++;
            }
        }

        /** What the last answer behind one time, up to another, says; NOT_KNOWN if there is none. */
        int lastWithin(int value, int behind, int upTo) {
            int place = countUpTo(keyOf(value, upTo));
            if (behind >= LAST_ANSWER_TIME || place < 1 || keys[place - 1] <= keyOf(value, behind)) {
                return NOT_KNOWN;
            }
            return values[place - 1];
        }

        /** The first time behind one, up to another, at which an answer holds; NONE if there is none. */
        int firstHolding(Step step, int behind, int upTo) {
            int end = countUpTo(keyOf(step.value, upTo));
            for (int i = countUpTo(keyOf(step.value, behind)); i < end; i++) {
                if (step.holds(values[i])) {
                    return keys[i] - keyOf(step.value, 0);
                }
            }
            return NONE;
        }
    }

    /** What one RUN did. */
    private static final class Trace {
        final int[] lines;
        final int[] times;
        final int[] values;
        int count;
        private final int[] undone;
        private int undoneCount;
        /** How many steps there were before the first by which a test was left, or NONE. */
        int firstLeft;

        Trace() {
            lines = new int[MOST_STEPS_OF_RUN];
            times = new int[MOST_STEPS_OF_RUN];
            values = new int[MOST_STEPS_OF_RUN];
            undone = new int[MOST_UNDONE];
            firstLeft = NONE;
        }

        void forget() {
            count = 0;
            undoneCount = 0;
            firstLeft = NONE;
        }

        boolean isFull() {
            return count >= MOST_STEPS_OF_RUN;
        }

        boolean hasStep(int i) {
            return i >= 0 && i < count;
        }

        void add(int line, int time, int value) {
            if (!isFull()) {
                lines[count] = line;
                times[count] = time;
                values[count] = value;
                count++;
            }
        }

        void addUndone(int fault) {
            if (undoneCount < MOST_UNDONE) {
                undone[undoneCount] = fault;
                undoneCount++;
            }
        }

        int undoneAt(int i) {
            return i < 0 || i >= undoneCount ? 0 : undone[i];
        }

        int firstDifference(Trace other) {
            int both = Math.min(count, other.count);
            for (int i = 0; i < both; i++) {
                if (lines[i] != other.lines[i] || times[i] != other.times[i]
                        || values[i] != other.values[i]) {
                    return i;
                }
            }
            return count == other.count ? NONE : both;
        }
    }

    /** Does the tests of a plan, once. A method that does steps answers false when the test is left. */
    private static final class Runner {
        private final Plan plan;
        private final Answers answers;
        private final Trace trace;
        private long drawn;
        private final int planted;
        private int faults;
        private int now;
        /** When each value was set last in this test, or NONE, and to what. */
        private final int[] setTimes;
        private final int[] setValues;
        private boolean tooManySteps;

        Runner(Plan plan, Answers answers, Trace trace, long seedOfRun, int planted) {
            this.plan = plan;
            this.answers = answers;
            this.trace = trace;
            drawn = seedOfRun;
            this.planted = planted;
            setTimes = new int[MOST_VALUES + 1];
            setValues = new int[MOST_VALUES + 1];
        }

        void doTest(Test test) {
            test.beginAnew();
            now = 0;
            faults = planted;
            Arrays.fill(setTimes, NONE);
            tooManySteps = false;
            doSteps(test, test.first, test.behind, 0);
            if (test.always != NONE && test.always < plan.steps.size() && !tooManySteps) {
                test.alwaysBegun++;
                doSteps(test, test.always + 1, plan.steps.get(test.always).behind, 1);
            }
            if (test.verdict == PASSED) {
                test.leftTime = now;
            }
            undoFaults();
        }

        private void undoFaults() {
            for (int fault = 1; fault <= MOST_FAULTS; fault++) {
                if ((faults & ~planted & 1 << fault) != 0) {
                    trace.addUndone(fault);
                }
            }
        }

        private boolean doSteps(Test test, int from, int to, int depth) {
            if (depth > MOST_DEEP) {
                return true;
            }
            int end = Math.min(to, plan.steps.size());
            int place = from;
            while (place < end) {
                Step step = plan.steps.get(place);
                if (!doStep(test, step)) {
                    return false;
                }
                if (step.kind == LOOP && !doLoop(test, step, place + 1, depth + 1)) {
                    return false;
                }
                if (step.kind == CASES && !doCases(test, step, place + 1, depth + 1)) {
                    return false;
                }
                place = Math.max(place + 1, step.behind);
            }
            return true;
        }

        private boolean doLoop(Test test, Step loop, int from, int depth) {
            for (int i = 0; i < loop.number; i++) {
                if (!doSteps(test, from, loop.behind, depth)) {
                    return false;
                }
            }
            return true;
        }

        private boolean doCases(Test test, Step table, int from, int depth) {
            for (int i = 0; i < table.numbers.length; i++) {
                if (!mayBegin(test)) {
                    return false;
                }
                setValue(table, table.numbers[i]);
                if (!doSteps(test, from, table.behind, depth)) {
                    return false;
                }
            }
            return true;
        }

        private boolean mayBegin(Test test) {
            if (trace.isFull()) {
                tooManySteps = true;
                leave(test, ERROR, 0, trace.count);
                return false;
            }
            return true;
        }

        private boolean doStep(Test test, Step step) {
            if (!mayBegin(test)) {
                return false;
            }
            step.begun = true;
            switch (step.kind) {
                case SET:
                    setValue(step, step.number);
                    return true;
                case DRAW:
                    setValue(step, draw(step.number, step.second));
                    return true;
                case WAIT:
                    return doWait(test, step, valueNow(step.value));
                case CHECK:
                    return doCheck(test, step, valueNow(step.value));
                case FAULT:
                    faults = step.second == 1 ? faults | 1 << step.number : faults & ~(1 << step.number);
                    pass(step, 0);
                    return true;
                default:
                    pass(step, 0);
                    return true;
            }
        }

        private void pass(Step step, int value) {
            trace.add(step.line, now, value);
            now++;
        }

        private void setValue(Step step, int to) {
            if (step.value >= 0 && step.value <= MOST_VALUES) {
                setTimes[step.value] = now;
                setValues[step.value] = to;
            }
            pass(step, to);
        }

        private int draw(int low, int high) {
            drawn = (drawn * 25173 + 13849) & LOWEST_32_BITS;
            int span = Math.max(1, high - low + 1);
            return low + (int) (drawn >>> 16) % span;
        }

        /** What a value is at the time at hand. */
        private int valueNow(int value) {
            if (value < 0 || value > MOST_VALUES) {
                return NOT_KNOWN;
            }
            int answered = answers.lastWithin(value, setTimes[value], now);
            if (answered != NOT_KNOWN) {
                return answered;
            }
            return setTimes[value] == NONE ? NOT_KNOWN : setValues[value];
        }

        private boolean doCheck(Test test, Step step, int is) {
            if (is == NOT_KNOWN || !step.holds(is)) {
                trace.add(step.line, now, 0);
                leave(test, is == NOT_KNOWN ? ERROR : FAILED, step.line, trace.count - 1);
                return false;
            }
            pass(step, 0);
            return true;
        }

        private boolean doWait(Test test, Step step, int is) {
            int last = now + step.second;
            if (is == NOT_KNOWN || !step.holds(is)) {
                // From now on only an answer changes the value, as nothing is set while it waits.
                int when = answers.firstHolding(step, now, last);
                if (when == NONE) {
                    now = last;
                    trace.add(step.line, now, 0);
                    leave(test, FAILED, step.line, trace.count - 1);
                    return false;
                }
                now = when;
            }
            pass(step, 0);
            return true;
        }

        /** Only the first verdict of a test counts. */
        private void leave(Test test, int verdict, int line, int stepsBefore) {
            if (test.verdict != PASSED) {
                return;
            }
            test.verdict = verdict;
            test.leftLine = line;
            test.leftTime = now;
            if (trace.firstLeft == NONE) {
                trace.firstLeft = stepsBefore;
            }
        }
    }
}
