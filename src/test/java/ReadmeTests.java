import java.io.IOException;
import java.lang.reflect.Method;
import java.lang.reflect.Modifier;
import java.nio.file.Files;
import java.nio.file.Path;
import java.util.Arrays;
import java.util.regex.Matcher;
import java.util.regex.Pattern;

/** README.md names every call, and what it says beside the calls that it shows is what they answer. */
public final class ReadmeTests {
    private static final Pattern TEXT = Pattern.compile("String text = \"(.*?)\";");
    private static final Pattern CALL = Pattern.compile("(?m)^x\\.(\\w+)\\(([-\\w, ]*)\\);\\s*// (-?\\d+):");
    private static final Checks CHECKS = new Checks();

    public static void main(String[] args) throws IOException, ReflectiveOperationException {
        String page = Files.readString(Path.of("README.md"));
        for (Method m : TollTales.class.getDeclaredMethods()) {
            if (Modifier.isPublic(m.getModifiers())) {
                CHECKS.holds("README.md names " + m.getName(), page.contains("x." + m.getName() + "(")
                    || page.contains("`" + m.getName() + "`"));
            }
        }
        TollTales x = new TollTales();
        Matcher text = TEXT.matcher(page);
        CHECKS.holds("README.md has a text", text.find());
        Checks.text(x, 0, 0, 0, text.group(1));
        Matcher call = CALL.matcher(page);
        int shown = 0;
        while (call.find()) {
            shown++;
            CHECKS.due("README.md: " + call.group(), answer(x, call.group(1), call.group(2)), Long.parseLong(call.group(3)));
        }
        long lines = page.lines().filter(line -> line.startsWith("x.")).count();
        CHECKS.due("calls shown with an answer, all but the one that makes the text's sheet", shown, lines - 1);
        CHECKS.end();
    }

    private static long answer(TollTales x, String name, String list) throws ReflectiveOperationException {
        Object[] numbers = list.isEmpty() ? new Object[0]
            : Arrays.stream(list.split(", ")).map(ReadmeTests::number).toArray();
        Class<?>[] types = new Class<?>[numbers.length];
        Arrays.fill(types, int.class);
        return ((Number) TollTales.class.getMethod(name, types).invoke(x, numbers)).longValue();
    }

    private static Object number(String digits) {
        return digits.startsWith("0b") ? Integer.parseInt(digits.substring(2), 2) : Integer.decode(digits);
    }
}
