import java.io.IOException;
import java.nio.file.Files;
import java.nio.file.Path;
import java.util.ArrayList;
import java.util.List;

/** Where the document leaves a choice, the class does what README.md says: one method a choice. */
public final class ChoicesTest {
    private static final String HEADING = "## Where the document leaves a choice";
    private static final String HEAD = "name a\nname b\ntest t\n";
    private static final int MOST = 2000;
    /** 2000 steps in one test: 1 + 19 * 105, and four more. */
    private static final String TWO_THOUSAND = "loop 19\nloop 20\n" + Due.many(5, "fault 1 off") + "end\n"
            + Due.many(4, "fault 1 off") + "end\n" + Due.many(4, "fault 1 off");

    private static final List<String> named = new ArrayList<>();

    public static void main(String[] args) throws IOException {
        lastLineThatIsEnded();
        namesAnywhere();
        namesFromTheirLineOn();
        spaces();
        zeros();
        answersCounted();
        stepsThatLeave();
        shorterAtTheLimit();
        undoneAtTheLimit();
        alwaysAtTheLimit();
        alwaysWhereItStands();
        unknownKinds();
        leastOfNothing();
        eachIsNamed();
        Due.close();
    }

    private static void choice(String words) {
        named.add(words);
        Due.choice(words);
    }

    private static void lastLineThatIsEnded() {
        choice("A text that ends by a sign 10 has no empty line behind it");
        Due.wrongAt(3, "test a\nloop 2");
        Due.wrongAt(3, "test a\nloop 2\n");
        Due.wrongAt(4, "test a\nloop 2\n\n");
    }

    private static void namesAnywhere() {
        choice("A line `name` may stand anywhere");
        Due.right(1, "test t\nname a\nset a 1");
        Due.right(2, "test t\nloop 2\nname a\nset a 1\nend");
        Due.right(2, "test t\nalways\nname a\nset a 1\nend");
        Calls.of("test t", "loop 2", "name a", "set a 1", "end").run(0).lines(2, 4, 4).cover(0, 1, 2);
    }

    private static void namesFromTheirLineOn() {
        choice("A name is there from its line on");
        Due.wrongAt(2, "test t\nset a 1\nname a");
        Due.wrongAt(2, "test t\ncases a 1\nend\nname a");
        Due.wrongAt(2, "test a\nname a");
    }

    private static void spaces() {
        choice("The sign 32 alone is a space");
        for (char c : new char[] {9, 11, 12, 13}) {
            Due.wrongAt(4, HEAD + "set" + c + "a 1");
            Due.wrongAt(4, HEAD + "set a 1" + c);
            Due.wrongAt(4, HEAD + c);
        }
        Due.right(1, HEAD + " set  a   1    ");
    }

    private static void zeros() {
        choice("A NUMBER may begin with zeros");
        Calls.having(HEAD + "loop 000002\nset a -0\nset b 007\nend\nfault 008 on").run(0).row(1, 5, 1, 0)
                .row(2, 6, 2, 7).lines(4, 5, 6, 5, 6, 8).undone(8);
        Due.wrongAt(4, HEAD + "set a 0000007");
        Due.wrongAt(4, HEAD + "fault -0 on");
    }

    private static void answersCounted() {
        choice("Each answer counts");
        Calls x = Calls.having(HEAD + "check a = 5").answer(1, 4, 0, 1).answer(1, 4, 0, 2).answer(1, 5, 0, 3);
        for (int i = 4; i <= 200; i++) {
            x.answer(1, 5, 0, i);
        }
        x.answer(1, 5, 0, -4).run(0);
    }

    private static void stepsThatLeave() {
        choice("The step by which a test is left is one that was done");
        Calls.having(HEAD + "set a 1\ncheck a = 2\nset b 1").run(1).lines(4, 5).cover(0, 1, 2).cover(2, 0, 2);
        Calls.having(HEAD + "wait a = 2 9\nset b 1").run(1).row(0, 4, 9, 0).lines(4).cover(0, 1, 1).cover(2, 0, 1);
    }

    private static void shorterAtTheLimit() {
        choice("`shorter` is 2000 where the first test that was left was left by a step too many");
        Calls.having(HEAD + TWO_THOUSAND).run(0).shorter(MOST);
        Calls.having(HEAD + TWO_THOUSAND + "set a 1").run(2).left(1, 2, 0, MOST).shorter(MOST).cover(2, 0, MOST);
    }

    private static void undoneAtTheLimit() {
        choice("A test that is left by a step too many has its faults UNDONE, too");
        Calls.having(HEAD + "fault 3 on\n" + TWO_THOUSAND).plant(4, true, 1).run(2).left(1, 2, 0, MOST).undone(3);
    }

    private static void alwaysAtTheLimit() {
        choice("An `always` that is reached with 2000 steps done counts as begun");
        String main = TWO_THOUSAND.replaceFirst("fault 1 off\n$", "");
        String always = "always\nset a 1\nend\n";
        Calls.having(HEAD + main + always).run(2).left(1, 2, 0, MOST).ended(1, 1).cases(MOST - 1, 2, 0);
        Calls.having(HEAD + main + always.replace("set a 1\n", "")).run(0).left(1, 0, 0, MOST).ended(1, 1);
        Calls.having(HEAD + main + always + "set b 1\n").run(2).left(1, 2, 0, MOST).ended(1, 0);
    }

    private static void alwaysWhereItStands() {
        choice("The line `always` is begun only where it stands");
        Calls.having(HEAD + "set a 1\nalways\nset b 1\nend").run(0).lines(4, 5, 6).cover(0, 1, 3);
        Calls.having(HEAD + "check a = 1\nalways\nset b 1\nend").run(2).lines(4, 6).cover(0, 1, 2);
    }

    private static void unknownKinds() {
        choice("`cover` of an unknown kind is -2");
        Calls x = Calls.having(HEAD);
        for (int of : new int[] {-1, 0, 1, 2, 3, 99}) {
            x.cover(-1, of, -2).cover(3, of, -2).cover(2, of, 0);
        }
    }

    private static void leastOfNothing() {
        choice("Where no test names a value, the least set has no tests");
        Calls.of("name a", "test t", "fault 1 on", "test u").least();
        Calls.of("name a", "test t", "fault 1 on", "test u", "set a 1").least(2);
    }

    /** Each choice that README.md tells has a test here, and each one here stands in README.md. */
    private static void eachIsNamed() throws IOException {
        Due.choice("README.md");
        String readme = Files.readString(Path.of("README.md"));
        int from = readme.indexOf(HEADING);
        Due.is("README.md tells the choices", from >= 0 ? 1 : 0, 1);
        String told = readme.substring(Math.max(0, from) + HEADING.length()).split("\n## ")[0];
        String[] choices = told.replaceAll("\\s+", " ").split(" - ");
        Due.is("choices in README.md", choices.length - 1, named.size());
        for (int i = 0; i < named.size(); i++) {
            String words = named.get(i);
            boolean there = i + 1 < choices.length && choices[i + 1].startsWith(words);
            Due.is("choice " + (i + 1) + " begins by \"" + words + "\"", there ? 1 : 0, 1);
        }
    }
}
