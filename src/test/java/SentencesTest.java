import java.io.IOException;
import java.nio.file.Files;
import java.nio.file.Path;
import java.util.ArrayList;
import java.util.Arrays;
import java.util.List;
import java.util.regex.Matcher;
import java.util.regex.Pattern;
import java.util.stream.Stream;

/** Each sentence of the document, up to what is not promised, is named by a test of its boundary cases, Edges..Test. */
public final class SentencesTest {
    private static final Pattern NAMED = Pattern.compile("Due\\.sentence\\((\\d+), \"((?:[^\"\\\\]|\\\\.)*)\"\\)");

    public static void main(String[] args) throws IOException {
        String document = Due.document();
        List<String> named = named();
        Due.is("sentences are named", named.isEmpty() ? 0 : 1, 1);
        int from = document.indexOf("## What it is");
        int to = document.indexOf("## Not promised");
        Due.is("the document has its headings", document.isEmpty() || from >= 0 && to > from ? 1 : 0, 1);
        if (from >= 0 && to > from) {
            for (String part : unnamed(document.substring(from, to), named)) {
                Due.is("tests that name \"" + part + "\"", 0, 1);
            }
        }
        Due.close();
    }

    private static List<String> named() throws IOException {
        List<String> all = new ArrayList<>();
        try (Stream<Path> files = Files.list(Path.of("src", "test", "java"))) {
            for (Path file : files.filter(f -> f.getFileName().toString().startsWith("Edges")).toList()) {
                // A sentence that goes over two lines is written as two texts.
                String source = Files.readString(file).replaceAll("\"\\s*\\+\\s*\"", "");
                Matcher m = NAMED.matcher(source);
                while (m.find()) {
                    all.add(m.group(2));
                }
            }
        }
        return all;
    }

    /** What stands between signs that end a sentence or a part of it, and lies in no text that a test names. */
    private static List<String> unnamed(String terms, List<String> named) {
        boolean[] seen = new boolean[terms.length()];
        for (String words : named) {
            for (int at = terms.indexOf(words); at >= 0; at = terms.indexOf(words, at + 1)) {
                Arrays.fill(seen, at, at + words.length(), true);
            }
        }
        List<String> left = new ArrayList<>();
        StringBuilder part = new StringBuilder();
        for (int i = 0; i <= terms.length(); i++) {
            if (i < terms.length() && !seen[i]) {
                part.append(terms.charAt(i));
            } else {
                left.add(part.toString());
                part.setLength(0);
            }
        }
        left.removeIf(one -> isFrame(one));
        return left;
    }

    /**
     * Headings, declarations (FaceTest looks at them), what the document is about, what joins two sentences: words that
     * say nothing that could be tested.
     */
    private static boolean isFrame(String part) {
        return !part.replaceAll("## What it is Tests in a text: .*? the least set of tests\\.", "")
                .replaceAll("## The public face ```java .*? ```", "").replaceAll("## Promise \\d+: [A-Za-z ]+? `[^`]*`:", "").replaceAll("```(text)?", "")
                .replaceAll("## Terms|others are:|Steps:", "").matches(".*[A-Za-z0-9].*");
    }
}
