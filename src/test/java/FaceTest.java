import java.io.IOException;
import java.lang.reflect.Constructor;
import java.lang.reflect.Field;
import java.lang.reflect.Method;
import java.lang.reflect.Modifier;
import java.nio.file.Files;
import java.nio.file.Path;
import java.util.Arrays;
import java.util.TreeSet;

/** The face of the class, and what rules of the language a look at the class and its text can tell. */
public final class FaceTest {
    private static final Check CHECK = new Check("FaceTest");
    private static final String[] FACE = {
        "int ask(int, int, int, int, int)", "boolean carry(int)", "int carryAll()", "int client(int, int)",
        "int drop(int)", "void fuse(int, int)", "int give(int, int)", "boolean kill(int)", "int message(int, int)",
        "int messages()", "int most()", "boolean partnerDown(int)", "int record(int, int, int)", "int seconds(int)",
        "int send(int)", "int server(int, int)", "int skew(int, int)", "boolean start(int)", "int tidy(int)"};
    private static final String[] RULED_OUT = {"import ", "->", "::", "finally", "synchronized", "assert ", "static {",
        "try ", "catch ", "protected ", "Exact(", "hashCode", "toString", "equals(", "System.", "Random", "Thread"};

    public static void main(String[] args) throws IOException {
        face();
        hiddenMembers();
        text();
        CHECK.end();
    }

    private static String signature(Method m) {
        String types = Arrays.stream(m.getParameterTypes()).map(Class::getSimpleName).reduce((a, b) -> a + ", " + b)
                .orElse("");
        return m.getReturnType().getSimpleName() + " " + m.getName() + "(" + types + ")";
    }

    private static void face() {
        TreeSet<String> got = new TreeSet<>();
        for (Method m : LeasePair.class.getDeclaredMethods()) {
            if (Modifier.isPublic(m.getModifiers())) {
                got.add(signature(m));
            }
        }
        CHECK.due("public methods", got.toString(), new TreeSet<>(Arrays.asList(FACE)).toString());
        Constructor<?>[] made = LeasePair.class.getConstructors();
        CHECK.due("constructors", Arrays.toString(made), "[public LeasePair(int,int,int)]");
        CHECK.due("public fields", Arrays.toString(LeasePair.class.getFields()),
                "[public static final int LeasePair.NONE]");
        CHECK.due("class", Modifier.toString(LeasePair.class.getModifiers()), "public final");
    }

    private static void hiddenMembers() {
        for (Method m : LeasePair.class.getDeclaredMethods()) {
            int how = m.getModifiers();
            CHECK.due(m + " is public or private", Modifier.isPublic(how) || Modifier.isPrivate(how), true);
        }
        for (Field f : LeasePair.class.getDeclaredFields()) {
            int how = f.getModifiers();
            CHECK.due(f + " is private or NONE", Modifier.isPrivate(how) || f.getName().equals("NONE"), true);
        }
        for (Class<?> inside : LeasePair.class.getDeclaredClasses()) {
            CHECK.due(inside + " is static", Modifier.isStatic(inside.getModifiers()), true);
            for (Method m : inside.getDeclaredMethods()) {
                CHECK.due(m + " has a name of its own", !isOfTheFace(m.getName()), true);
                CHECK.due(m + " takes seven at most", m.getParameterCount() <= 7, true);
            }
        }
    }

    private static boolean isOfTheFace(String name) {
        for (String line : FACE) {
            if (line.contains(" " + name + "(")) {
                return true;
            }
        }
        return false;
    }

    private static void text() throws IOException {
        String text = Files.readString(Path.of("src/main/java/LeasePair.java"));
        for (String word : RULED_OUT) {
            CHECK.due("'" + word + "' in the text", text.contains(word), false);
        }
        for (String line : text.split("\n")) {
            CHECK.due("a line of at most 100 characters: " + line, line.length() <= 100, true);
        }
    }
}
