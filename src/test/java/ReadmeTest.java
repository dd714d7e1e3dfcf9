import java.io.ByteArrayOutputStream;
import java.io.IOException;
import java.io.PrintStream;
import java.nio.charset.StandardCharsets;
import java.nio.file.Files;
import java.nio.file.Path;

/** The example of README.md is Example.java, so that it compiles, and prints what README.md says. */
public final class ReadmeTest {
    private static final Path README = Path.of("README.md");
    private static final Path EXAMPLE = Path.of("src", "test", "java", "Example.java");

    public static void main(String[] args) throws IOException {
        String readme = Files.readString(README);
        int java = readme.indexOf("```java\n");
        int text = readme.indexOf("```text\n", java);
        Due.is("README.md has an example and what it prints", java >= 0 && text > java ? 1 : 0, 1);
        same("the example", block(readme, java), Files.readString(EXAMPLE));
        same("what the example prints", block(readme, text), printed());
        Due.close();
    }

    /** What stands between the fences, the first of which begins here. */
    private static String block(String readme, int fence) {
        int from = readme.indexOf('\n', Math.max(0, fence)) + 1;
        int to = readme.indexOf("```\n", from);
        return readme.substring(from, Math.max(from, to));
    }

    private static String printed() {
        PrintStream before = System.out;
        ByteArrayOutputStream bytes = new ByteArrayOutputStream();
        System.setOut(new PrintStream(bytes, true, StandardCharsets.UTF_8));
        try {
            Example.main(new String[0]);
        } finally {
            System.setOut(before);
        }
        return bytes.toString(StandardCharsets.UTF_8).replace(System.lineSeparator(), "\n");
    }

    private static void same(String what, String got, String want) {
        String[] gotLines = got.split("\n");
        String[] wantLines = want.split("\n");
        Due.is("lines of " + what, gotLines.length, wantLines.length);
        for (int i = 0; i < Math.min(gotLines.length, wantLines.length); i++) {
            boolean same = gotLines[i].equals(wantLines[i]);
            Due.is("line " + (i + 1) + " of " + what + " (\"" + wantLines[i] + "\")", same ? 1 : 0, 1);
        }
    }
}
