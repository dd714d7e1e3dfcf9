/** The boundary cases of promise 13, sentence by sentence. */
public final class Edges13LeastTest {
    public static void main(String[] args) {
        namesAllValues();
        fewestTests();
        firstByTheirNumbers();
        thereIsNone();
        Due.close();
    }

    /** A word a test: the values that it names, a .. t; - for none. */
    private static Calls naming(String tests) {
        StringBuilder text = new StringBuilder(Due.names(20));
        char name = 'a';
        for (String test : tests.split(" ")) {
            text.append("test t").append(name++).append('\n');
            for (char c : test.replace("-", "").toCharArray()) {
                text.append("set v").append(c).append(" 1\n");
            }
        }
        return Calls.having(text.toString());
    }

    private static void namesAllValues() {
        Due.sentence(13, "The i-th test (from 0) of the least set that names all values that tests name");
        naming("a").least(1);
        naming("- a").least(2);
        naming("a b").least(1, 2);
        naming("t").least(1);
        naming("a t").least(1, 2);
        naming("abcdefghijklmnopqrst").least(1);
        naming("abcdefghijklmnopqrs t").least(1, 2);
        naming("a b c d e f g h i j k l").least(1, 2, 3, 4, 5, 6, 7, 8, 9, 10, 11, 12);
        naming("- - - - - - - - - - - t").least(12);
        // A step of each kind that names a value does; a value that no test names is not asked for.
        for (String line : new String[] {"draw b 1 2", "wait b = 1 0", "check b = 1", "cases b 1\nend",
            "always\nset b 1\nend", "loop 1\nset b 1\nend"}) {
            Calls.having("name a\nname b\nname c\ntest t\nset a 1\ntest u\n" + line).least(1, 2);
        }
        // RUNS, answers and faults change nothing.
        Calls.of("name a", "test t", "check a = 1", "test u", "check a = 1").run(2).answer(1, 1, 0, 1).run(0).least(1);
    }

    private static void fewestTests() {
        Due.sentence(13, "of the fewest tests");
        naming("a b ab").least(3);
        naming("a b c d e f g h i j k abcdefghijk").least(12);
        naming("a b c d e f g h i j k abcdefghij").least(11, 12);
        naming("a ab bc c").least(1, 3);
        // The one that names most is in no least set.
        naming("abcd abe cdf").least(2, 3);
        naming("bcde abc def").least(2, 3);
        naming("abcdef ghijkl ag bh ci dj ek fl abcghi defjkl").least(1, 2);
    }

    private static void firstByTheirNumbers() {
        Due.sentence(13, "of these sets the first by their numbers");
        naming("a a").least(1);
        naming("- a a a").least(2);
        naming("ab bc ac").least(1, 2);
        naming("ad bc ab cd").least(1, 2);
        naming("d bc ab cd ac bd").least(3, 4);
        // 1 with 4 comes before 2 with 3: the lowest number first, not the lowest sum or the lowest last one.
        naming("ab ac bd cd").least(1, 4);
        naming("ab acd bcd cd").least(1, 2);
        naming("abc ade bdf cef def").least(1, 5);
        naming("a bc ab c abt ct").least(2, 5);
        naming("- ab cd ab cd ab cd ab cd ab cd cd").least(2, 3);
        naming("l l l l l l l l l l k l").least(1, 11);
    }

    private static void thereIsNone() {
        Due.sentence(13, "0 if there is none.");
        new Calls().leastAt(0, 0).leastAt(-1, 0);
        Calls.of("name a").leastAt(0, 0);
        Calls.of("name a", "test t").least();
        Calls.of("name a", "test t", "fault 1 on", "test u").least();
        Calls x = naming("a b");
        for (int i : new int[] {-1, 2, 3, 11, 12, 13, Integer.MIN_VALUE, Integer.MAX_VALUE}) {
            x.leastAt(i, 0);
        }
        naming("a b c d e f g h i j k l").leastAt(11, 12).leastAt(12, 0).leastAt(13, 0).leastAt(-1, 0);
        naming("a b").least(1, 2).read(0).leastAt(0, 0);
        naming("a b").signs("test").read(Due.THROWS).leastAt(0, 0);
    }
}
