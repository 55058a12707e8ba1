import java.io.IOException;
import java.lang.reflect.Field;
import java.lang.reflect.Method;
import java.lang.reflect.Modifier;
import java.net.URL;
import java.net.URLClassLoader;
import java.nio.file.Files;
import java.nio.file.Path;
import java.util.ArrayList;
import java.util.List;
import java.util.Set;
import java.util.TreeSet;
import java.util.regex.Matcher;
import java.util.regex.Pattern;
import javax.tools.ToolProvider;

/** What README.md says of the class: its program answers what stands behind its calls, and its names are there. */
final class ReadmeTest {
    private static final Pattern BLOCK = Pattern.compile("```java\n(.*?)```", Pattern.DOTALL);
    private static final Pattern ANSWERED = Pattern.compile("(clock\\.\\w+\\(.*\\));\\s+// ([\\w-]+): .+");
    private static final Pattern NAME = Pattern.compile("`([A-Z]\\w+)(?:\\.(\\w+))?`");
    private static final Pattern CALL = Pattern.compile("`([a-z]\\w+)`");

    private ReadmeTest() {
    }

    static void run() {
        try {
            String page = Files.readString(Path.of("README.md"));
            program(page);
            names(page);
            calls(page);
        } catch (IOException | ReflectiveOperationException e) {
            Check.due("README.md cannot be tried: " + e, false, true);
        }
    }

    private static void program(String page) throws IOException, ReflectiveOperationException {
        Matcher block = BLOCK.matcher(page);
        Check.due("README.md has a program", block.find(), true);
        List<String> wanted = new ArrayList<>();
        StringBuilder body = new StringBuilder();
        for (String line : block.group(1).split("\n")) {
            Matcher answered = ANSWERED.matcher(line);
            if (!answered.matches()) {
                Check.due("README.md's line '" + line + "' has an answer that is not read", line.contains("//"), false);
                body.append(line).append('\n');
                continue;
            }
            String call = answered.group(1);
            wanted.add(call + " " + answered.group(2).replace("NONE", "" + BrownClock.NONE));
            body.append("try { answers.add(\"").append(call).append(" \" + ").append(call).append("); }\n");
            body.append("catch (RuntimeException e) { answers.add(\"").append(call)
                    .append(" \" + e.getClass().getSimpleName()); }\n");
        }
        Check.due("README.md's program has answers", wanted.size() > 20, true);
        Check.due("README.md's program", String.join("\n", answers(body.toString())), String.join("\n", wanted));
    }

    /** Compiles the program of the page as it stands, and runs it. */
    private static List<String> answers(String body) throws IOException, ReflectiveOperationException {
        Path folder = Files.createTempDirectory("readme");
        Path source = folder.resolve("Yours.java");
        Path compiled = folder.resolve("Yours.class");
        Files.writeString(source, "public final class Yours { public static java.util.List<String> run() {\n"
                + "java.util.List<String> answers = new java.util.ArrayList<>();\n" + body + "return answers; } }\n");
        try (URLClassLoader loader = new URLClassLoader(new URL[] {folder.toUri().toURL()},
                ReadmeTest.class.getClassLoader())) {
            int code = ToolProvider.getSystemJavaCompiler().run(null, null, null, "-d", folder.toString(),
                    "-cp", System.getProperty("java.class.path"), source.toString());
            Check.due("javac of README.md's program", code, 0);
            List<String> answers = new ArrayList<>();
            for (Object answer : (List<?>) loader.loadClass("Yours").getMethod("run").invoke(null)) {
                answers.add((String) answer);
            }
            return answers;
        } finally {
            Files.deleteIfExists(compiled);
            Files.deleteIfExists(source);
            Files.deleteIfExists(folder);
        }
    }

    /** Every `Class` and `Class.member` of the page is one of the project's classes, and has that member. */
    private static void names(String page) {
        Matcher name = NAME.matcher(page);
        while (name.find()) {
            Class<?> found = classNamed(name.group(1));
            boolean isThere = found != null && (name.group(2) == null || members(found).contains(name.group(2)));
            Check.due("README.md's " + name.group() + " is there", isThere || name.group(1).equals("NONE"), true);
        }
    }

    private static Class<?> classNamed(String name) {
        for (String full : new String[] {name, "BrownClock$" + name}) {
            try {
                return Class.forName(full, false, ReadmeTest.class.getClassLoader());
            } catch (ClassNotFoundException e) {
                continue;
            }
        }
        return null;
    }

    /** The page names each method of the face, and no other one. */
    private static void calls(String page) {
        Set<String> named = new TreeSet<>();
        Matcher call = CALL.matcher(page);
        while (call.find()) {
            named.add(call.group(1));
        }
        named.removeAll(List.of("javac", "java"));
        Set<String> face = new TreeSet<>();
        for (Method method : BrownClock.class.getDeclaredMethods()) {
            if (Modifier.isPublic(method.getModifiers())) {
                face.add(method.getName());
            }
        }
        Check.due("the calls that README.md names", named.toString(), face.toString());
    }

    private static List<String> members(Class<?> of) {
        List<String> names = new ArrayList<>();
        for (Method method : of.getDeclaredMethods()) {
            names.add(method.getName());
        }
        for (Field field : of.getDeclaredFields()) {
            names.add(field.getName());
        }
        return names;
    }
}
