import java.io.IOException;
import java.lang.reflect.Constructor;
import java.lang.reflect.Field;
import java.lang.reflect.Method;
import java.lang.reflect.Modifier;
import java.nio.file.Files;
import java.nio.file.Path;
import java.util.Set;
import java.util.TreeSet;
import java.util.regex.Matcher;
import java.util.regex.Pattern;

/** The face of the class, and those rules of LANGUAGE.md that can be seen from outside or by words. */
public final class LanguageTests {
    private static final Checks CHECKS = new Checks();
    private static final String FACE = """
        int river(int, int, int, int)
        int ofBridge(int, int)
        int price(int, int)
        int years(int)
        int traveller(int)
        int knows(int)
        int buy(int, int)
        int cross(int, int, int)
        int together(int, int, int, int)
        int toldIn(int, int)
        int undo(int)
        int least(int, int, int, int, int)
        int plan(int, int, int, int, int, int)
        long ways(int, int, int, int, int)
        int village(int, int)
        int lasts(int)
        int which(int, int, int, int)
        int worth(int)
        int debt(int, int)
        int sheet(int, int, int)
        int lose(int)
        int put(int, int, int)
        long cell(int, int, int)
        int copy(int, int, int, int, int)
        int tell(int)
        int wake(int)
        int as(int, int)
        int trace()
        int fault()
        int many(int)
        """;

    public static void main(String[] args) throws IOException {
        face();
        for (Class<?> inner : TollTales.class.getDeclaredClasses()) {
            inside(inner);
        }
        CHECKS.holds("at most twelve classes", TollTales.class.getDeclaredClasses().length + 1 <= 12);
        words(Files.readString(Path.of("src/main/java/TollTales.java")));
        CHECKS.end();
    }

    private static void face() {
        Set<String> due = new TreeSet<>(Set.of(FACE.strip().split("\n")));
        Set<String> is = new TreeSet<>();
        Set<String> hidden = new TreeSet<>();
        Set<String> shown = new TreeSet<>();
        for (Method m : TollTales.class.getDeclaredMethods()) {
            if (Modifier.isPrivate(m.getModifiers())) {
                hidden.add(m.getName());
                continue;
            }
            shown.add(m.getName());
            String parameters = java.util.Arrays.toString(m.getParameterTypes()).replace("[", "(").replace("]", ")");
            is.add(m.getReturnType() + " " + m.getName() + parameters);
            CHECKS.holds(m + " is public and of an object", m.getModifiers() == Modifier.PUBLIC);
        }
        CHECKS.holds("the face is the document's: " + is, is.equals(due));
        hidden.retainAll(shown);
        CHECKS.holds("no private method bears a public one's name: " + hidden, hidden.isEmpty());
        Set<String> constants = new TreeSet<>();
        int own = 0;
        for (Field f : TollTales.class.getDeclaredFields()) {
            boolean fixed = Modifier.isStatic(f.getModifiers());
            own += fixed ? 0 : 1;
            CHECKS.holds(f + " is a constant or not static", !fixed || Modifier.isFinal(f.getModifiers()));
            if (Modifier.isPublic(f.getModifiers())) {
                constants.add(f.getType() + " " + f.getName());
            } else {
                CHECKS.holds(f + " is private", Modifier.isPrivate(f.getModifiers()));
            }
        }
        CHECKS.holds("public constants", constants.equals(
            Set.of("int UNKNOWN", "int OUTSIDE", "int STATE", "int FULL", "int NONE", "long LOST")));
        CHECKS.holds("at most twenty fields", own <= 20);
        Constructor<?>[] constructors = TollTales.class.getDeclaredConstructors();
        CHECKS.due("constructors", constructors.length, 1);
        CHECKS.due("its parameters", constructors[0].getParameterCount(), 0);
    }

    private static void inside(Class<?> inner) {
        CHECKS.holds(inner + " is static", Modifier.isStatic(inner.getModifiers()));
        CHECKS.holds(inner + " is not public", !Modifier.isPublic(inner.getModifiers()));
        CHECKS.holds(inner + " has no class inside", inner.getDeclaredClasses().length == 0);
        CHECKS.holds(inner + " has at most twenty fields", inner.getDeclaredFields().length <= 20);
        for (Method m : inner.getDeclaredMethods()) {
            CHECKS.holds(m + " has at most seven parameters", m.getParameterCount() <= 7);
            CHECKS.holds(m + " bears no public name", !FACE.contains(" " + m.getName() + "("));
            CHECKS.holds(m + " is none of Object's", !Set.of("equals", "hashCode", "toString").contains(m.getName()));
        }
    }

    private static void words(String source) {
        String code = source.replaceAll("(?s)/\\*.*?\\*/", "").replaceAll("//.*", "");
        Matcher word = Pattern.compile("\\b(throw|throws|try|catch|synchronized|assert|while|package|protected|var|sealed|record"
            + "|Object|Random|System\\.(?!arraycopy)\\w+|\\w+Exact)\\b|->|::|@|\"").matcher(code);
        while (word.find()) {
            CHECKS.holds("no " + word.group(), false);
        }
        Matcher imported = Pattern.compile("import\\s+(\\S+);").matcher(code);
        while (imported.find()) {
            CHECKS.holds("import of " + imported.group(1), imported.group(1).equals("java.util.Arrays"));
        }
        int length = 0;
        for (String line : code.split("\n")) {
            length = line.matches(" {4}(?: {4})?}") ? 0 : length + 1;
            CHECKS.holds("a method is short: " + line, length <= 70);
        }
    }
}
