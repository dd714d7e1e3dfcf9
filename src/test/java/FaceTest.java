import java.lang.reflect.Constructor;
import java.lang.reflect.Field;
import java.lang.reflect.Method;
import java.lang.reflect.Modifier;
import java.util.Arrays;
import java.util.TreeSet;

/** The public face is the document's, and nothing else of the class can be seen. */
public final class FaceTest {
    private static final String[] FACE = {"void sign(int)", "int read() throws IllegalStateException", "int wrong()",
        "int answer(int, long, long)", "int run()", "int verdict(int, int)", "int ended(int)",
        "int plant(int, boolean)", "int undone(int)", "int differ(int, int)", "int cover(int, int)",
        "int least(int)", "int seed(long)", "int shorter()", "int cases(int, int)"};

    public static void main(String[] args) {
        faceIsTheDocuments();
        TreeSet<String> seen = new TreeSet<>();
        TreeSet<String> names = new TreeSet<>();
        for (Method m : TestText.class.getDeclaredMethods()) {
            if (!Modifier.isPrivate(m.getModifiers())) {
                Due.is(m.getName() + " is public, not static", m.getModifiers(), Modifier.PUBLIC);
                seen.add(shown(m));
                names.add(m.getName());
            }
        }
        Due.is("the methods are " + seen, seen.equals(new TreeSet<>(Arrays.asList(FACE))) ? 1 : 0, 1);
        for (Method m : TestText.class.getDeclaredMethods()) {
            if (Modifier.isPrivate(m.getModifiers())) {
                Due.is("private " + m.getName() + " bears a public name", names.contains(m.getName()) ? 1 : 0, 0);
            }
        }
        Due.is("the class's modifiers", TestText.class.getModifiers(), Modifier.PUBLIC | Modifier.FINAL);
        Due.is("how many constructors", TestText.class.getDeclaredConstructors().length, 1);
        for (Constructor<?> c : TestText.class.getDeclaredConstructors()) {
            Due.is("the constructor's modifiers", c.getModifiers(), Modifier.PUBLIC);
            Due.is("the constructor's parameters", c.getParameterCount(), 0);
        }
        for (Field f : TestText.class.getDeclaredFields()) {
            Due.is(f.getName() + " is private", Modifier.isPrivate(f.getModifiers()) ? 1 : 0, 1);
        }
        Due.is("how many classes", TestText.class.getDeclaredClasses().length <= 11 ? 1 : 0, 1);
        for (Class<?> c : TestText.class.getDeclaredClasses()) {
            Due.is(c.getName() + " is static", Modifier.isStatic(c.getModifiers()) ? 1 : 0, 1);
            staticsAreFinal(c);
        }
        staticsAreFinal(TestText.class);
        Due.close();
    }

    /** The document tells the face as Java, with names for the parameters. */
    private static void faceIsTheDocuments() {
        String document = Due.document();
        int from = document.indexOf("public final class TestText {");
        int to = document.indexOf("}", Math.max(0, from));
        if (document.isEmpty()) {
            return;
        }
        Due.is("the document tells a face", from >= 0 && to > from ? 1 : 0, 1);
        TreeSet<String> told = new TreeSet<>();
        for (String one : document.substring(document.indexOf("{", from) + 1, to).split(";")) {
            told.add(one.replace("public ", "").replaceAll("(\\w+) \\w+([,)])", "$1$2").trim());
        }
        TreeSet<String> known = new TreeSet<>(Arrays.asList(FACE));
        known.add("TestText()");
        known.add("");
        Due.is("the document's face is " + told, told.equals(known) ? 1 : 0, 1);
    }

    private static void staticsAreFinal(Class<?> c) {
        for (Field f : c.getDeclaredFields()) {
            if (Modifier.isStatic(f.getModifiers())) {
                Due.is(f.getName() + " is final", Modifier.isFinal(f.getModifiers()) ? 1 : 0, 1);
            }
        }
    }

    private static String shown(Method m) {
        String[] types = Arrays.stream(m.getParameterTypes()).map(Class::getSimpleName).toArray(String[]::new);
        String[] thrown = Arrays.stream(m.getExceptionTypes()).map(Class::getSimpleName).toArray(String[]::new);
        return m.getReturnType().getSimpleName() + " " + m.getName() + "(" + String.join(", ", types) + ")"
                + (thrown.length > 0 ? " throws " + String.join(", ", thrown) : "");
    }
}
