import java.util.ArrayList;
import java.util.List;

/** Promise 13: the least set of tests that names all values that tests name. */
public final class Promise13LeastTest {
    public static void main(String[] args) {
        least("", new int[0]);
        least("-", new int[0]);
        least("- -", new int[0]);
        least("a", new int[] {1});
        least("- a", new int[] {2});
        least("a a", new int[] {1});
        least("a b", new int[] {1, 2});
        least("a b ab", new int[] {3});
        least("ab bc ac", new int[] {1, 2});
        least("a ab bc c", new int[] {1, 3});
        // The greedy way takes the greatest one first, and needs three.
        least("abcd abe cdf", new int[] {2, 3});
        least("abd cef abcd ef abe", new int[] {1, 2});
        least("a bc ab c abx cx", new int[] {2, 5});
        least("ad bc ab cd", new int[] {1, 2});
        least("d bc ab cd ac bd", new int[] {3, 4});
        least("abcdefghijklmnopqrst a", new int[] {1});
        least("a b c d e f g h i j k l", new int[] {1, 2, 3, 4, 5, 6, 7, 8, 9, 10, 11, 12});
        least("- - - - - - - - - - - t", new int[] {12});
        least("a b c d e f g h i j k abcdefghijk", new int[] {12});
        countsOnlyWhatTestsName();
        staysWithRuns();
        Due.close();
    }

    /** A word a test: the values that it names. */
    private static void least(String tests, int[] due) {
        List<String> lines = new ArrayList<>();
        lines.add(Due.names(20));
        char name = 'a';
        for (String test : tests.split(" ")) {
            if (!test.isEmpty()) {
                lines.add("test t" + name++);
                for (char c : test.replace("-", "").toCharArray()) {
                    lines.add("set v" + (c == 'x' ? 't' : c) + " 1");
                }
            }
        }
        TestText x = Due.of(lines.toArray(new String[0]));
        tells(x, tests, due);
    }

    private static void tells(TestText x, String what, int[] due) {
        for (int i = 0; i < due.length; i++) {
            Due.is("least(" + i + ") of " + what, x.least(i), due[i]);
        }
        for (int i : new int[] {due.length, due.length + 1, 12, 13, -1, Integer.MAX_VALUE, Integer.MIN_VALUE}) {
            Due.is("least(" + i + ") of " + what, x.least(i), 0);
        }
    }

    private static void countsOnlyWhatTestsName() {
        tells(Due.of("name a", "name b", "test t", "fault 1 on", "test u", "always", "set b 1", "end"), "always",
                new int[] {2});
        tells(Due.of("name a", "name b", "test t", "check b = 1", "test u", "cases a 1", "end", "test v",
                "draw b 1 1"), "cases", new int[] {1, 2});
    }

    private static void staysWithRuns() {
        TestText x = Due.of("name a", "test t", "test u", "check a = 1");
        x.run();
        tells(x, "a run", new int[] {2});
        Due.reads(x);
        tells(x, "nothing", new int[0]);
    }
}
