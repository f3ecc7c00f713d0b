import java.io.IOException;
import java.lang.reflect.Constructor;
import java.lang.reflect.Field;
import java.lang.reflect.Method;
import java.lang.reflect.Modifier;
import java.nio.file.Files;
import java.nio.file.Path;
import java.util.Arrays;
import java.util.Set;
import java.util.TreeSet;
import java.util.stream.Collectors;

/** The public face, and those rules of LANGUAGE.md that can be read off the class and its source. */
public final class FaceTest {
    private static final String[] METHODS = {
        "int write(int)", "int wipe()", "int fault()", "int inn()", "int glass(int,int)", "int drinker(int,int)",
        "int pour(int,int)", "int drink(int,int)", "int tip(int,int)", "int hour()", "int undo()", "int left(int)",
        "int evening(int)", "int pouring(int,boolean)", "int wake()", "int order(boolean)", "int hall(int)",
        "int judge(int,long)", "int see(int,int,int)", "int unsee()", "int thirsts(int)", "int share(int,boolean)",
        "int rests(int,int,int)", "int leak(int,int,boolean)", "long seed(long)", "int nights(int)", "int keep(int)",
        "int again(int)", "int count(int)"};
    private static final Set<String> CONSTANTS =
        Set.of("UNKNOWN=-1", "OUTSIDE=-2", "STATE=-3", "FULL=-4", "NONE=-9");

    public static void main(String[] args) throws Exception {
        theFace();
        theNestedClasses();
        theSource();
        Check.end();
    }

    private static String signature(Method m) {
        return m.getReturnType() + " " + m.getName() + "("
            + Arrays.stream(m.getParameterTypes()).map(Class::getName).collect(Collectors.joining(",")) + ")";
    }

    private static void theFace() throws IllegalAccessException {
        Set<String> methods = new TreeSet<>();
        Set<String> names = new TreeSet<>();
        Set<String> constants = new TreeSet<>();
        for (Method m : GlassTax.class.getDeclaredMethods()) {
            if (!Modifier.isPrivate(m.getModifiers())) {
                methods.add(signature(m));
                names.add(m.getName());
                Check.due(m + " is public and of the object", m.getModifiers(), Modifier.PUBLIC);
            }
        }
        for (Field f : GlassTax.class.getDeclaredFields()) {
            if (!Modifier.isPrivate(f.getModifiers())) {
                constants.add(f.getName() + "=" + f.getInt(null));
                Check.due(f + " is constant", f.getModifiers(), Modifier.PUBLIC | Modifier.STATIC | Modifier.FINAL);
            }
        }
        Check.due("methods: " + methods, methods.equals(new TreeSet<>(Arrays.asList(METHODS))));
        Check.due("constants: " + constants, constants.equals(new TreeSet<>(CONSTANTS)));
        Constructor<?>[] makers = GlassTax.class.getDeclaredConstructors();
        Check.due("constructors", makers.length == 1 && makers[0].getParameterCount() == 0);
        Check.due("class", GlassTax.class.getModifiers(), Modifier.PUBLIC | Modifier.FINAL);
        noHiddenNamesake(GlassTax.class, names);
        for (Class<?> c : GlassTax.class.getDeclaredClasses()) {
            noHiddenNamesake(c, names);
        }
    }

    private static void noHiddenNamesake(Class<?> c, Set<String> names) {
        for (Method m : c.getDeclaredMethods()) {
            boolean face = c == GlassTax.class && Modifier.isPublic(m.getModifiers());
            Check.due(m + " bears the name of a public one", face || !names.contains(m.getName()));
            Check.due(m + " takes at most seven", m.getParameterCount() <= 7);
        }
    }

    private static void theNestedClasses() {
        Class<?>[] inside = GlassTax.class.getDeclaredClasses();
        Check.due("at most twelve classes", inside.length < 12);
        for (Class<?> c : inside) {
            Check.due(c + " is static, not public", Modifier.isStatic(c.getModifiers())
                && !Modifier.isPublic(c.getModifiers()) && !Modifier.isProtected(c.getModifiers()));
            fewFields(c);
        }
        fewFields(GlassTax.class);
    }

    private static void fewFields(Class<?> c) {
        int fields = 0;
        for (Field f : c.getDeclaredFields()) {
            boolean constant = Modifier.isStatic(f.getModifiers());
            Check.due(f + ": static fields are final", !constant || Modifier.isFinal(f.getModifiers()));
            fields += constant ? 0 : 1;
        }
        Check.due(c + ": at most twenty fields", fields <= 20);
    }

    private static void theSource() throws IOException {
        String source = Files.readString(Path.of("src/main/java/GlassTax.java"));
        Check.due("signs 1 to 127", source.chars().allMatch(c -> c >= 1 && c <= 127));
        String code = source.replaceAll("(?s)/\\*.*?\\*/", " ").replaceAll("//[^\n]*", " ");
        Set<String> words = new TreeSet<>(Arrays.asList(code.split("[^A-Za-z0-9_]+")));
        for (String word : new String[] {"import", "package", "throw", "throws", "try", "catch", "finally",
            "synchronized", "assert", "native", "volatile", "transient", "protected", "goto", "hashCode", "toString",
            "double", "float", "Object", "Throwable", "Exception", "var"}) {
            Check.due("the source has the word " + word, !words.contains(word));
        }
        for (String word : words) {
            Check.due("the source has " + word, !word.endsWith("Exact") && !word.endsWith("Exception"));
        }
        for (String sign : new String[] {"->", "::", "@", "\"", "static {"}) {
            Check.due("the source has " + sign, !code.contains(sign));
        }
    }
}
