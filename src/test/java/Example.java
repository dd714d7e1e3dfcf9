/** A text of two tests: what the class answers when it reads and runs it. */
public final class Example {
    private static final String TEXT = """
            name x
            name y
            test one
            set x 3
            wait y > 5 20
            fault 2 on
            loop 2
            draw x 1 6
            check x < 7
            end
            always
            fault 3 off
            end
            test two
            cases y 4 5
            check y = 4
            end
            """;

    private final TestText t = new TestText();

    public static void main(String[] args) {
        Example example = new Example();
        example.aRightText();
        example.aWrongText();
    }

    /** Four signs a call, the highest byte first; a byte 0 is no sign, and left out. */
    private void put(String text) {
        for (int i = 0; i < text.length(); i += 4) {
            int c = 0;
            for (int k = i; k < i + 4; k++) {
                c = c << 8 | (k < text.length() ? text.charAt(k) : 0);
            }
            t.sign(c);
        }
    }

    private void aRightText() {
        put(TEXT);
        tell(t.read(), "steps are in the text");
        tell(t.answer(2, 6, 9), "answer is told: value 2 (y) is 6 from time 9 on");
        tell(t.plant(3, true), "fault is planted from outside: fault 3");
        tell(t.run(), "is the greatest verdict (0 PASSED, 1 FAILED, 2 ERROR)");
        tell(t.verdict(1, 0), "is the verdict of test 1");
        tell(t.verdict(1, 2), "is the time behind its last step");
        tell(t.ended(1), "time its always was begun");
        tell(t.verdict(2, 0), "is the verdict of test 2");
        tell(t.verdict(2, 1), "is the line of the step by which it was left");
        tell(t.verdict(2, 2), "is the time of that step");
        tell(t.undone(0), "is the first fault that a test left behind");
        tell(t.undone(1), "says that there is no second one");
        tell(t.cases(1, 0), "is the line of step 1, the second one done");
        tell(t.cases(1, 1), "is the time at which it was done");
        tell(t.cases(4, 2), "is what step 4 drew");
        tell(t.shorter(), "steps were done before the first by which a test was left");
        tell(t.seed(2026), "says that the next RUNS draw otherwise");
        tell(t.run(), "is the greatest verdict of the second RUN");
        tell(t.differ(1, 2), "is the first step at which the two RUNS differ");
        tell(t.cover(0, 1), "steps of test 1 were begun");
        tell(t.cover(1, 2), "tests name value 2");
        tell(t.cover(2, 0), "steps were done in both RUNS");
        tell(t.least(0), "is the first test of the least set that names x and y");
        tell(t.least(1), "says that there is no second one");
        tell(t.verdict(3, 0), "refuses: there is no test 3");
    }

    private void aWrongText() {
        put("name x\ntest one\nset z 3");
        try {
            tell(t.read(), "steps are in the text");
        } catch (IllegalStateException e) {
            tell(t.wrong(), "is the first line that is wrong");
        }
    }

    private static void tell(int answer, String says) {
        System.out.println(answer + " " + says);
    }
}
