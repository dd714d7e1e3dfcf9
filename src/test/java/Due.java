import java.io.IOException;
import java.nio.file.Files;
import java.nio.file.Path;

/** What the tests share: texts put in sign by sign, answers held against those that are due. */
final class Due {
    /** What reads() answers when read() throws IllegalStateException. */
    static final int THROWS = -99;

    private static int calls = 0;
    private static int wrong = 0;
    /** The promise and the sentence that are being tested, told with an answer that is not as due. */
    private static String tested = "";

    private Due() {
    }

    static void is(String call, long got, long want) {
        calls++;
        if (got != want) {
            wrong++;
            System.out.println(tested + call + " answered " + got + ", due is " + want);
        }
    }

    /** What follows tests these words of the document, as that promise uses them. */
    static void sentence(int promise, String words) {
        tested = "promise " + promise + ", \"" + words + "\": ";
        String document = document();
        is("the words stand in the document", document.isEmpty() || document.contains(words) ? 1 : 0, 1);
    }

    /** What follows tests what README.md says in these words. */
    static void choice(String words) {
        tested = "choice \"" + words + "\": ";
    }

    /** The document in one line, empty if it is not there. */
    static String document() {
        Path path = Path.of("..", "shared", "DOC.md");
        try {
            return Files.exists(path) ? String.join(" ", Files.readString(path).trim().split("\\s+")) : "";
        } catch (IOException e) {
            return "";
        }
    }

    /** Prints what there is to say, and ends with exit code 1 if an answer was not as due. */
    static void close() {
        System.out.println(calls + " answers, " + wrong + " not as due");
        if (wrong != 0 || calls == 0) {
            System.exit(1);
        }
    }

    static void type(TestText x, String text) {
        for (int i = 0; i < text.length(); i += 4) {
            int c = 0;
            for (int k = 0; k < 4; k++) {
                c = c << 8 | (i + k < text.length() ? text.charAt(i + k) : 0);
            }
            x.sign(c);
        }
    }

    static String lines(String... lines) {
        return String.join("\n", lines) + "\n";
    }

    /** Lines that name so many values: va, vb, .. */
    static String names(int n) {
        StringBuilder names = new StringBuilder();
        for (int i = 0; i < n; i++) {
            names.append("name v").append((char) ('a' + i)).append('\n');
        }
        return names.toString();
    }

    /** The line again and again. */
    static String many(int n, String line) {
        return (line + "\n").repeat(n);
    }

    static int reads(TestText x) {
        try {
            return x.read();
        } catch (IllegalStateException e) {
            return THROWS;
        }
    }

    /** A new object that has read these lines, which must be right. */
    static TestText of(String... lines) {
        TestText x = new TestText();
        type(x, lines(lines));
        if (reads(x) == THROWS) {
            is("read() of " + String.join(" / ", lines), THROWS, 0);
        }
        return x;
    }

    /** The text is right, and has as many steps. */
    static void right(int steps, String text) {
        TestText x = new TestText();
        type(x, text);
        is("read() of " + shown(text), reads(x), steps);
        is("wrong() of " + shown(text), x.wrong(), 0);
    }

    /** The text is wrong, at this line. */
    static void wrongAt(int line, String text) {
        TestText x = new TestText();
        type(x, text);
        is("read() of " + shown(text), reads(x), THROWS);
        is("wrong() of " + shown(text), x.wrong(), line);
    }

    /** Step i of the last RUN is this. */
    static void row(TestText x, int i, int line, int time, int value) {
        is("cases(" + i + ", 0)", x.cases(i, 0), line);
        is("cases(" + i + ", 1)", x.cases(i, 1), time);
        is("cases(" + i + ", 2)", x.cases(i, 2), value);
    }

    /** Test i was left like this in the last RUN. */
    static void left(TestText x, int i, int verdict, int line, int time) {
        is("verdict(" + i + ", 0)", x.verdict(i, 0), verdict);
        is("verdict(" + i + ", 1)", x.verdict(i, 1), line);
        is("verdict(" + i + ", 2)", x.verdict(i, 2), time);
    }

    private static String shown(String text) {
        String all = text.replace("\n", " / ");
        return all.length() > 160 ? all.substring(0, 160) + " .." : all;
    }
}
