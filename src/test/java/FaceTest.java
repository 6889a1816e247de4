import java.lang.reflect.Constructor;
import java.lang.reflect.Field;
import java.lang.reflect.Method;
import java.lang.reflect.Modifier;
import java.util.Arrays;
import java.util.Set;
import java.util.TreeSet;

/** The class has the members of the document's public face, and no others that can be seen. */
public final class FaceTest {
    private static final Set<String> FACE = new TreeSet<>(Arrays.asList(
        "int NONE", "LeasedFiles(4)",
        "int read(2)", "int write(3)", "int retry(1)", "int status(1)", "int result(1)", "int version(1)",
        "int deliver(1)", "boolean lose(1)", "int pending(0)", "int message(2)", "int tick(1)", "int pass(2)",
        "int crash(1)", "int halt(0)", "int restart(0)", "int copy(3)", "int lease(2)", "int file(2)",
        "int server(1)", "int client(2)"));

    public static void main(String[] args) {
        Set<String> seen = new TreeSet<>();
        for (Field field : LeasedFiles.class.getDeclaredFields()) {
            if (!Modifier.isPrivate(field.getModifiers())) {
                seen.add(field.getType() + " " + field.getName());
            }
        }
        for (Constructor<?> made : LeasedFiles.class.getDeclaredConstructors()) {
            seen.add(made.getName() + "(" + made.getParameterCount() + ")");
        }
        for (Method method : LeasedFiles.class.getDeclaredMethods()) {
            if (!Modifier.isPrivate(method.getModifiers()) && !method.isSynthetic()) {
                seen.add(method.getReturnType() + " " + method.getName() + "(" + method.getParameterCount() + ")");
            }
        }
        if (!seen.equals(FACE)) {
            Run.fail("the face is " + seen + ", due is " + FACE);
        }
        if (LeasedFiles.NONE != -1) {
            Run.fail("NONE is " + LeasedFiles.NONE + ", due is -1");
        }
        if (!Modifier.isFinal(LeasedFiles.class.getModifiers()) || !Modifier.isPublic(LeasedFiles.class.getModifiers())) {
            Run.fail("the class is not public and final");
        }
        Run.end();
    }
}
