import java.io.IOException;
import java.lang.reflect.Method;
import java.lang.reflect.Modifier;
import java.nio.file.Files;
import java.nio.file.Path;
import java.util.regex.Matcher;
import java.util.regex.Pattern;

/** README.md must not promise other answers than the class gives, nor leave out a call. */
public final class ReadmeTest {
    private static final Pattern TEXT = Pattern.compile("String text = \"(\\w+)\";");
    private static final Pattern ROW = Pattern.compile("x\\.(\\w+)\\(([^)]*)\\); +// (-?\\d+): .*");

    public static void main(String[] args) throws Exception {
        String page = Files.readString(Path.of("README.md"));
        theRows(page);
        theCalls(page);
        Check.end();
    }

    private static void theRows(String page) throws ReflectiveOperationException {
        Matcher text = TEXT.matcher(page);
        Check.due("README.md has a text", text.find());
        GlassTax x = Check.withText(text.group(1));
        Matcher row = ROW.matcher(page);
        int rows = 0;
        while (row.find()) {
            Check.due("README.md: " + row.group(), answer(x, row.group(1), row.group(2)), Long.parseLong(row.group(3)));
            rows++;
        }
        Check.due("README.md has rows with answers", rows >= 10);
        Check.due("every row has been read", rows, page.lines().filter(l -> l.startsWith("x.")).count());
    }

    private static long answer(GlassTax x, String name, String told) throws ReflectiveOperationException {
        Method method = methodOf(name);
        Class<?>[] kinds = method.getParameterTypes();
        String[] words = told.isEmpty() ? new String[0] : told.split(", ");
        Object[] with = new Object[words.length];
        for (int i = 0; i < words.length; i++) {
            with[i] = kinds[i] == boolean.class ? (Object) Boolean.valueOf(words[i])
                : kinds[i] == long.class ? (Object) Long.valueOf(words[i]) : (Object) Integer.valueOf(words[i]);
        }
        return ((Number) method.invoke(x, with)).longValue();
    }

    private static Method methodOf(String name) throws NoSuchMethodException {
        for (Method m : GlassTax.class.getDeclaredMethods()) {
            if (m.getName().equals(name) && Modifier.isPublic(m.getModifiers())) {
                return m;
            }
        }
        throw new NoSuchMethodException(name);
    }

    private static void theCalls(String page) throws IOException {
        for (Method m : GlassTax.class.getDeclaredMethods()) {
            if (Modifier.isPublic(m.getModifiers())) {
                Check.due("README.md tells of " + m.getName(), page.contains("`" + m.getName() + "("));
            }
        }
    }
}
