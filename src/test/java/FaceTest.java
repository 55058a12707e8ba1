import java.lang.reflect.Constructor;
import java.lang.reflect.Field;
import java.lang.reflect.Method;
import java.lang.reflect.Modifier;
import java.util.Arrays;
import java.util.TreeSet;

/** The public face: every constant, the constructor and every method, and nothing else that is not private. */
final class FaceTest {
    private static final String[] METHODS = {
        "int append(int) IllegalArgumentException IllegalStateException",
        "int clearText()",
        "int errorPosition()",
        "int load() IllegalStateException",
        "int about(int) IllegalArgumentException",
        "long account(int) IllegalArgumentException",
        "int register(int) IndexOutOfBoundsException",
        "boolean isGuarded(int) IndexOutOfBoundsException",
        "int row(int,int) IndexOutOfBoundsException IllegalArgumentException",
        "int alarm(int,int) IndexOutOfBoundsException IllegalArgumentException",
        "int pass(int) IllegalArgumentException",
        "int level(int) IllegalArgumentException",
        "int setTime(int) IllegalArgumentException IllegalStateException",
        "int correct(int) IllegalArgumentException IllegalStateException",
        "int age(int) IllegalArgumentException",
        "int write(int,int) IndexOutOfBoundsException IllegalArgumentException IllegalStateException",
        "int guard(int,boolean) IndexOutOfBoundsException IllegalStateException",
        "int tamper(int) IndexOutOfBoundsException",
        "int clearRows() IllegalStateException",
        "int setAlarm(int,int) IndexOutOfBoundsException IllegalArgumentException",
        "int battery(int) IllegalArgumentException",
        "int undo() IllegalStateException",
        "int whyNot()",
        "int ahead(int,int) IllegalArgumentException",
        "int endsAfter()",
        "int dueAfter(int) IndexOutOfBoundsException",
        "int bestCorrection(int) IllegalArgumentException",
        "int runScript(int,long) IllegalArgumentException",
        "int simulate(long,int) IllegalArgumentException",
        "int save(int) IndexOutOfBoundsException",
        "int restore(int) IndexOutOfBoundsException IllegalStateException",
    };

    private FaceTest() {
    }

    static void run() {
        Check.due("NONE", BrownClock.NONE, -99999999);
        Check.due("the class is public and final", Modifier.toString(BrownClock.class.getModifiers()), "public final");
        Check.due("the methods that are not private", methods(), lines(new TreeSet<>(Arrays.asList(METHODS))));
        Check.due("the fields that are not private", fields(), "public static final int NONE\n");
        Constructor<?>[] constructors = BrownClock.class.getDeclaredConstructors();
        Check.due("constructors", constructors.length, 1);
        Check.due("the constructor", constructors[0].toString(), "public BrownClock()");
    }

    private static String methods() {
        TreeSet<String> found = new TreeSet<>();
        for (Method method : BrownClock.class.getDeclaredMethods()) {
            if (!Modifier.isPrivate(method.getModifiers()) && !method.isSynthetic()) {
                found.add(signature(method));
            }
        }
        return lines(found);
    }

    private static String signature(Method method) {
        StringBuilder all = new StringBuilder(method.getReturnType().getName()).append(' ').append(method.getName());
        String separator = "(";
        for (Class<?> parameter : method.getParameterTypes()) {
            all.append(separator).append(parameter.getName());
            separator = ",";
        }
        all.append(method.getParameterCount() == 0 ? "()" : ")");
        for (Class<?> thrown : method.getExceptionTypes()) {
            all.append(' ').append(thrown.getSimpleName());
        }
        return all.toString();
    }

    private static String fields() {
        TreeSet<String> found = new TreeSet<>();
        for (Field field : BrownClock.class.getDeclaredFields()) {
            if (!Modifier.isPrivate(field.getModifiers()) && !field.isSynthetic()) {
                found.add(Modifier.toString(field.getModifiers()) + " " + field.getType().getName() + " " + field.getName());
            }
        }
        return lines(found);
    }

    private static String lines(TreeSet<String> all) {
        StringBuilder joined = new StringBuilder();
        for (String line : all) {
            joined.append(line).append('\n');
        }
        return joined.toString();
    }
}
