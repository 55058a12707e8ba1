import java.io.IOException;
import java.lang.reflect.Field;
import java.lang.reflect.Method;
import java.lang.reflect.Modifier;
import java.nio.file.Files;
import java.nio.file.Path;
import java.util.ArrayList;
import java.util.HashSet;
import java.util.List;
import java.util.Set;

/** Those rules of ../shared/LANGUAGE.md that can be seen from the source's words or from the compiled class. */
final class LanguageTest {
    private static final String[] FORBIDDEN = {
        "import ", "package ", "->", "::", "catch", "finally", "synchronized", "assert ", "instanceof",
        "getMessage", "Exact(", "System.currentTimeMillis", "System.nanoTime", "Random", "Thread", "static {",
    };

    private LanguageTest() {
    }

    static void run() {
        String source = source();
        for (String word : FORBIDDEN) {
            Check.due("the source has '" + word + "'", source.contains(word), false);
        }
        for (int i = 0; i < source.length(); i++) {
            char c = source.charAt(i);
            if (c != '\n' && (c < 32 || c > 126)) {
                Check.due("the source's sign " + i, c, 32);
            }
        }
        List<Class<?>> classes = classes();
        Check.due("the file has at most twelve classes", classes.size() <= 12, true);
        for (Class<?> each : classes) {
            seeClass(each);
        }
    }

    private static void seeClass(Class<?> each) {
        Set<String> face = new HashSet<>();
        for (Method method : BrownClock.class.getDeclaredMethods()) {
            if (Modifier.isPublic(method.getModifiers())) {
                face.add(method.getName());
            }
        }
        for (Method method : each.getDeclaredMethods()) {
            boolean hides = face.contains(method.getName()) && !Modifier.isPublic(method.getModifiers());
            Check.due(method + " bears the name of a public one", hides, false);
            Check.due(method + " has at most seven parameters", method.getParameterCount() <= 7, true);
        }
        int fields = 0;
        for (Field field : each.getDeclaredFields()) {
            boolean isStatic = Modifier.isStatic(field.getModifiers());
            Check.due(field + " is static and not final", isStatic && !Modifier.isFinal(field.getModifiers()), false);
            fields += isStatic ? 0 : 1;
        }
        Check.due(each + " has at most twenty fields", fields <= 20, true);
        if (each != BrownClock.class) {
            Check.due(each + " is static", Modifier.isStatic(each.getModifiers()), true);
            Check.due(each + " is public or protected",
                    Modifier.isPublic(each.getModifiers()) || Modifier.isProtected(each.getModifiers()), false);
        }
    }

    private static List<Class<?>> classes() {
        List<Class<?>> found = new ArrayList<>();
        found.add(BrownClock.class);
        for (Class<?> nested : BrownClock.class.getDeclaredClasses()) {
            found.add(nested);
        }
        return found;
    }

    private static String source() {
        try {
            return Files.readString(Path.of("src/main/java/BrownClock.java"));
        } catch (IOException e) {
            throw new IllegalStateException("the tests run from the project's folder", e);
        }
    }
}
