import java.util.ArrayDeque;
import java.util.ArrayList;
import java.util.Arrays;
import java.util.Deque;
import java.util.HashSet;
import java.util.List;
import java.util.Set;
import java.util.TreeSet;

/** The document written a second time, as plainly as the whole Java library allows, to test TestText against. */
final class SlowModel {
    private record Told(int value, long is, long time) {
    }

    private record Row(int line, int time, int value) {
    }

    private static final class Step {
        final String[] words;
        final int line;
        final List<Step> inside = new ArrayList<>();

        Step(String[] words, int line) {
            this.words = words;
            this.line = line;
        }
    }

    private static final class Test {
        final List<Step> steps = new ArrayList<>();
        final List<Step> all = new ArrayList<>();
        Step always;
        int ended;
        int verdict;
        int line;
        int time;
    }

    /** A line is WRONG. */
    private static final class Wrong extends Exception {
        private static final long serialVersionUID = 1;
    }

    /** A test is left by a verdict. */
    private static final class Left extends Exception {
        private static final long serialVersionUID = 1;
        final int verdict;
        final int line;

        Left(int verdict, int line) {
            this.verdict = verdict;
            this.line = line;
        }
    }

    private final StringBuilder text = new StringBuilder();
    private int wrong = 0;
    private long seed = 1;
    private List<String> values = new ArrayList<>();
    private List<String> testNames = new ArrayList<>();
    private List<Test> tests = new ArrayList<>();
    private final List<Told> told = new ArrayList<>();
    private final Set<Integer> planted = new TreeSet<>();
    private final List<List<Row>> runs = new ArrayList<>();
    private final Set<Step> begun = new HashSet<>();
    private List<Integer> undone = new ArrayList<>();
    private int shorter;

    private long r;
    private int now;
    private Set<Integer> faults;
    private int[] setAt;
    private int[] setTo;
    private List<Row> rows;

    void sign(int c) {
        for (int shift = 24; shift >= 0; shift -= 8) {
            int s = c >> shift & 255;
            if (s > 0 && s < 128 && text.length() < 4000) {
                text.append((char) s);
            }
        }
    }

    /** Due.THROWS when it throws. */
    int read() {
        values = new ArrayList<>();
        testNames = new ArrayList<>();
        tests = new ArrayList<>();
        told.clear();
        planted.clear();
        runs.clear();
        begun.clear();
        undone = new ArrayList<>();
        String all = text.toString();
        text.setLength(0);
        wrong = 0;
        List<String> lines = new ArrayList<>(Arrays.asList(all.split("\n", -1)));
        if (lines.get(lines.size() - 1).isEmpty()) {
            lines.remove(lines.size() - 1);
        }
        Deque<Step> open = new ArrayDeque<>();
        int line = 0;
        try {
            for (String one : lines) {
                line++;
                String[] words = Arrays.stream(one.split(" ")).filter(w -> !w.isEmpty()).toArray(String[]::new);
                if (words.length > 0) {
                    take(words, line, open);
                }
            }
            line++;
            need(open.isEmpty());
        } catch (Wrong e) {
            wrong = line;
            values = new ArrayList<>();
            testNames = new ArrayList<>();
            tests = new ArrayList<>();
            return Due.THROWS;
        }
        return tests.stream().mapToInt(t -> t.all.size()).sum();
    }

    private static void need(boolean right) throws Wrong {
        if (!right) {
            throw new Wrong();
        }
    }

    private static void needNumber(String word, int low, int high) throws Wrong {
        need(word.matches("-?[0-9]{1,6}"));
        need(Integer.parseInt(word) >= low && Integer.parseInt(word) <= high);
    }

    private static void needAnyNumber(String word) throws Wrong {
        needNumber(word, -999999, 999999);
    }

    private void needNew(String name) throws Wrong {
        need(name.matches("[a-z]{1,8}") && !values.contains(name) && !testNames.contains(name));
    }

    private void take(String[] w, int line, Deque<Step> open) throws Wrong {
        switch (w[0]) {
            case "name" -> {
                need(w.length == 2);
                needNew(w[1]);
                values.add(w[1]);
                need(values.size() <= 20);
            }
            case "test" -> {
                need(w.length == 2);
                needNew(w[1]);
                need(open.isEmpty());
                testNames.add(w[1]);
                tests.add(new Test());
                need(tests.size() <= 12);
            }
            case "end" -> {
                need(w.length == 1);
                need(!open.isEmpty());
                open.pop();
            }
            default -> takeStep(w, line, open);
        }
    }

    private void takeStep(String[] w, int line, Deque<Step> open) throws Wrong {
        need(!tests.isEmpty());
        Test test = tests.get(tests.size() - 1);
        Step step = new Step(w, line);
        if (!w[0].equals("always")) {
            (open.isEmpty() ? test.steps : open.peek().inside).add(step);
        }
        test.all.add(step);
        need(test.all.size() <= 100);
        if (List.of("set", "draw", "wait", "check", "cases").contains(w[0])) {
            need(w.length > 1 && values.contains(w[1]));
        }
        switch (w[0]) {
            case "set" -> {
                need(w.length == 3);
                needAnyNumber(w[2]);
            }
            case "draw" -> {
                need(w.length == 4);
                needAnyNumber(w[2]);
                needAnyNumber(w[3]);
                need(Integer.parseInt(w[2]) <= Integer.parseInt(w[3]));
            }
            case "wait", "check" -> {
                need(w.length == (w[0].equals("wait") ? 5 : 4));
                need(w[2].matches("[=<>!]"));
                needAnyNumber(w[3]);
                if (w[0].equals("wait")) {
                    needNumber(w[4], 0, 1000);
                }
            }
            case "fault" -> {
                need(w.length == 3);
                needNumber(w[1], 1, 8);
                need(w[2].equals("on") || w[2].equals("off"));
            }
            case "loop" -> {
                need(w.length == 2);
                needNumber(w[1], 1, 20);
                need(open.size() < 8);
                open.push(step);
            }
            case "cases" -> {
                need(w.length >= 3 && w.length <= 12);
                for (int i = 2; i < w.length; i++) {
                    needAnyNumber(w[i]);
                }
                need(open.size() < 8);
                open.push(step);
            }
            case "always" -> {
                need(w.length == 1);
                need(open.isEmpty() && test.always == null);
                test.always = step;
                test.steps.add(step);
                open.push(step);
            }
            default -> need(false);
        }
    }

    int wrong() {
        return wrong;
    }

    int answer(int name, long v, long t) {
        if (name < 1 || name > values.size()) {
            return -1;
        }
        if (Math.abs(v) > 999999 || v == Long.MIN_VALUE || t < 0 || t > 100000) {
            return -2;
        }
        if (told.size() == 200) {
            return -4;
        }
        told.add(new Told(name, v, t));
        return told.size();
    }

    int run() {
        if (tests.isEmpty()) {
            return -3;
        }
        if (runs.size() == 8) {
            return -4;
        }
        rows = new ArrayList<>();
        runs.add(rows);
        undone = new ArrayList<>();
        shorter = -1;
        r = seed;
        for (Test test : tests) {
            doTest(test);
        }
        if (shorter < 0) {
            shorter = rows.size();
        }
        return tests.stream().mapToInt(t -> t.verdict).max().getAsInt();
    }

    private void doTest(Test test) {
        now = 0;
        setAt = new int[21];
        Arrays.fill(setAt, -1);
        setTo = new int[21];
        faults = new TreeSet<>(planted);
        test.verdict = 0;
        test.line = 0;
        boolean always = test.always != null;
        try {
            doSteps(test.steps);
        } catch (Left left) {
            leave(test, left);
            always = always && left.line > 0;
        }
        if (always) {
            test.ended++;
            try {
                doSteps(test.always.inside);
            } catch (Left left) {
                if (test.verdict == 0) {
                    leave(test, left);
                }
            }
        }
        if (test.verdict == 0) {
            test.time = now;
        }
        for (int fault : faults) {
            if (!planted.contains(fault)) {
                undone.add(fault);
            }
        }
    }

    private void leave(Test test, Left left) {
        test.verdict = left.verdict;
        test.line = left.line;
        test.time = now;
        if (shorter < 0) {
            shorter = left.line == 0 ? rows.size() : rows.size() - 1;
        }
    }

    private void doSteps(List<Step> steps) throws Left {
        for (Step step : steps) {
            doStep(step);
        }
    }

    private void begin() throws Left {
        if (rows.size() == 2000) {
            throw new Left(2, 0);
        }
    }

    private void put(int value, int to, int line) {
        setAt[value] = now;
        setTo[value] = to;
        rows.add(new Row(line, now, to));
        now++;
    }

    private void doStep(Step step) throws Left {
        begin();
        begun.add(step);
        String[] w = step.words;
        int value = w.length > 1 ? values.indexOf(w[1]) + 1 : 0;
        switch (w[0]) {
            case "set" -> put(value, Integer.parseInt(w[2]), step.line);
            case "draw" -> {
                r = (r * 25173 + 13849) % (1L << 32);
                int low = Integer.parseInt(w[2]);
                put(value, (int) (low + r / 65536 % (Integer.parseInt(w[3]) - low + 1)), step.line);
            }
            case "wait" -> {
                int last = now + Integer.parseInt(w[4]);
                while (now < last && !holds(is(value, now), w[2], Integer.parseInt(w[3]))) {
                    now++;
                }
                rows.add(new Row(step.line, now, 0));
                if (!holds(is(value, now), w[2], Integer.parseInt(w[3]))) {
                    throw new Left(1, step.line);
                }
                now++;
            }
            case "check" -> {
                rows.add(new Row(step.line, now, 0));
                if (is(value, now) == null) {
                    throw new Left(2, step.line);
                }
                if (!holds(is(value, now), w[2], Integer.parseInt(w[3]))) {
                    throw new Left(1, step.line);
                }
                now++;
            }
            default -> {
                rows.add(new Row(step.line, now, 0));
                now++;
                doOther(step, value);
            }
        }
    }

    private void doOther(Step step, int value) throws Left {
        String[] w = step.words;
        if (w[0].equals("fault")) {
            if (w[2].equals("on")) {
                faults.add(Integer.parseInt(w[1]));
            } else {
                faults.remove(Integer.parseInt(w[1]));
            }
        }
        if (w[0].equals("loop")) {
            for (int i = 0; i < Integer.parseInt(w[1]); i++) {
                doSteps(step.inside);
            }
        }
        if (w[0].equals("cases")) {
            for (int i = 2; i < w.length; i++) {
                begin();
                put(value, Integer.parseInt(w[i]), step.line);
                doSteps(step.inside);
            }
        }
    }

    /** What a value is at a time, null if it is not known. */
    private Integer is(int value, int time) {
        Integer is = setAt[value] < 0 ? null : setTo[value];
        long latest = setAt[value];
        for (Told one : told) {
            boolean counts = one.value == value && one.time <= time && one.time > setAt[value];
            if (counts && one.time >= latest) {
                latest = one.time;
                is = (int) one.is;
            }
        }
        return is;
    }

    private static boolean holds(Integer is, String op, int number) {
        if (is == null) {
            return false;
        }
        return switch (op) {
            case "=" -> is == number;
            case "<" -> is < number;
            case ">" -> is > number;
            default -> is != number;
        };
    }

    int verdict(int i, int what) {
        if (i < 1 || i > tests.size()) {
            return -1;
        }
        if (what < 0 || what > 2) {
            return -2;
        }
        if (runs.isEmpty()) {
            return -3;
        }
        Test test = tests.get(i - 1);
        return new int[] {test.verdict, test.line, test.time}[what];
    }

    int ended(int i) {
        return i < 1 || i > tests.size() ? -1 : tests.get(i - 1).ended;
    }

    int plant(int fault, boolean on) {
        if (fault < 1 || fault > 8) {
            return -1;
        }
        planted.remove(fault);
        if (on) {
            planted.add(fault);
        }
        return planted.size();
    }

    int undone(int i) {
        return i < 0 || i >= undone.size() || i >= 100 ? 0 : undone.get(i);
    }

    int differ(int run, int other) {
        if (run < 1 || run > runs.size() || other < 1 || other > runs.size()) {
            return -2;
        }
        List<Row> one = runs.get(run - 1);
        List<Row> two = runs.get(other - 1);
        int i = 0;
        while (i < one.size() && i < two.size() && one.get(i).equals(two.get(i))) {
            i++;
        }
        return i == one.size() && i == two.size() ? -1 : i;
    }

    private boolean names(Test test, String value) {
        return test.all.stream().anyMatch(s -> !List.of("fault", "loop", "always").contains(s.words[0])
                && s.words[1].equals(value));
    }

    int cover(int kind, int of) {
        if (kind == 0) {
            return of < 1 || of > tests.size() ? -1
                    : (int) tests.get(of - 1).all.stream().filter(begun::contains).count();
        }
        if (kind == 1) {
            return of < 1 || of > values.size() ? -1
                    : (int) tests.stream().filter(t -> names(t, values.get(of - 1))).count();
        }
        return kind == 2 ? runs.stream().mapToInt(List::size).sum() : -2;
    }

    int least(int i) {
        Set<String> wanted = new HashSet<>();
        for (Test test : tests) {
            values.stream().filter(v -> names(test, v)).forEach(wanted::add);
        }
        for (int size = 0; size <= tests.size(); size++) {
            List<Integer> chosen = choose(new ArrayList<>(), size, wanted);
            if (chosen != null) {
                return i < 0 || i >= chosen.size() ? 0 : chosen.get(i);
            }
        }
        return 0;
    }

    /** The first set of this size, in the order of the tests' numbers, null if there is none. */
    private List<Integer> choose(List<Integer> chosen, int size, Set<String> wanted) {
        if (chosen.size() == size) {
            return wanted.stream().allMatch(v -> chosen.stream().anyMatch(t -> names(tests.get(t - 1), v)))
                    ? chosen : null;
        }
        int from = chosen.isEmpty() ? 1 : chosen.get(chosen.size() - 1) + 1;
        for (int t = from; t <= tests.size(); t++) {
            List<Integer> more = new ArrayList<>(chosen);
            more.add(t);
            List<Integer> found = choose(more, size, wanted);
            if (found != null) {
                return found;
            }
        }
        return null;
    }

    int seed(long s) {
        seed = Math.floorMod(s, 1L << 32);
        return 1;
    }

    int shorter() {
        return runs.isEmpty() ? -3 : shorter;
    }

    int cases(int i, int what) {
        if (runs.isEmpty() || i < 0 || i >= runs.get(runs.size() - 1).size()) {
            return -1;
        }
        Row row = runs.get(runs.size() - 1).get(i);
        return what == 0 ? row.line : what == 1 ? row.time : what == 2 ? row.value : -2;
    }
}
