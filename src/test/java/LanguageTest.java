import java.io.IOException;
import java.lang.reflect.Constructor;
import java.lang.reflect.Field;
import java.lang.reflect.Method;
import java.lang.reflect.Modifier;
import java.nio.file.Files;
import java.nio.file.Path;
import java.util.ArrayList;
import java.util.List;
import java.util.Set;
import java.util.TreeSet;
import java.util.regex.Matcher;
import java.util.regex.Pattern;

/** Those rules of LANGUAGE.md that can be seen in the class and its text; each failure bears the rule's number. */
public final class LanguageTest {
    private static final Path SOURCE = Path.of("src/main/java/LeasedFiles.java");
    private static final int MOST_PARAMETERS = 7;
    private static final int MOST_LINES = 60;
    private static final int MOST_CLASSES = 12;
    private static final int MOST_FIELDS = 20;
    private static final Pattern METHOD = Pattern.compile("(?m)^( {4,8})[a-zA-Z].*\\) \\{\n(?s:.*?)\n\\1\\}$");

    public static void main(String[] args) throws IOException {
        String text = withoutComments(Files.readString(SOURCE));
        List<Class<?>> classes = allClasses();
        if (classes.size() > MOST_CLASSES) {
            Run.fail("rule 11: there are " + classes.size() + " classes");
        }
        for (Class<?> one : classes) {
            kind(one);
            fields(one);
            parameters(one);
            privateNames(one);
        }
        library(text);
        words(text);
        lengths(text);
        Run.end();
    }

    private static String withoutComments(String text) {
        return text.replaceAll("(?s)/\\*.*?\\*/", "").replaceAll("//.*", "");
    }

    private static List<Class<?>> allClasses() {
        List<Class<?>> all = new ArrayList<>(List.of(LeasedFiles.class));
        for (int i = 0; i < all.size(); i++) {
            all.addAll(List.of(all.get(i).getDeclaredClasses()));
        }
        return all;
    }

    private static void kind(Class<?> one) {
        if (!one.getPackageName().isEmpty()) {
            Run.fail("a package line: " + one);
        }
        boolean seen = Modifier.isPublic(one.getModifiers()) || Modifier.isProtected(one.getModifiers());
        if (one != LeasedFiles.class && (seen || !Modifier.isStatic(one.getModifiers()))) {
            Run.fail("rule 1: a class inside is not private or package-visible and static: " + one);
        }
    }

    private static void fields(Class<?> one) {
        int held = 0;
        for (Field field : one.getDeclaredFields()) {
            if (!isAllowed(field.getType())) {
                Run.fail("rule 3: " + field);
            }
            if (!Modifier.isStatic(field.getModifiers())) {
                held++;
            } else if (!Modifier.isFinal(field.getModifiers()) || !(field.getType().isPrimitive() || field.getType() == String.class)) {
                Run.fail("rule 5: " + field);
            }
        }
        if (held > MOST_FIELDS) {
            Run.fail("rule 11: " + one + " has " + held + " fields");
        }
    }

    private static boolean isAllowed(Class<?> type) {
        if (type.isArray()) {
            Class<?> part = type.getComponentType();
            return part.isArray() ? part.getComponentType().isPrimitive() : isAllowed(part);
        }
        return type.isPrimitive() || type == String.class || type == ArrayList.class || type == List.class
            || allClasses().contains(type);
    }

    private static void parameters(Class<?> one) {
        for (Method method : one.getDeclaredMethods()) {
            if (method.getParameterCount() > MOST_PARAMETERS) {
                Run.fail("rule 11: " + method);
            }
            if (method.isSynthetic()) {
                Run.fail("rule 2: a lambda or the like: " + method);
            }
        }
        for (Constructor<?> made : one.getDeclaredConstructors()) {
            if (made.getParameterCount() > MOST_PARAMETERS) {
                Run.fail("rule 11: " + made);
            }
        }
    }

    private static void privateNames(Class<?> one) {
        Set<String> face = new TreeSet<>();
        for (Method method : LeasedFiles.class.getDeclaredMethods()) {
            if (Modifier.isPublic(method.getModifiers())) {
                face.add(method.getName());
            }
        }
        for (Method method : one.getDeclaredMethods()) {
            if (Modifier.isPrivate(method.getModifiers()) && face.contains(method.getName())) {
                Run.fail("rule 1: a private method bears the name of a public one: " + method);
            }
        }
    }

    private static void library(String text) {
        Matcher imports = Pattern.compile("(?m)^import .*$").matcher(text);
        while (imports.find()) {
            if (!imports.group().matches("import java\\.util\\.(ArrayList|List|Arrays|Iterator);")) {
                Run.fail("rule 4: " + imports.group());
            }
        }
        none(text, "4", "\\b(?:java|javax|jdk|sun)\\.(?!util\\.(?:ArrayList|List|Arrays|Iterator);)");
        none(text, "4", "\\bSystem\\.(?!arraycopy\\b)");
        none(text, "4", "\\b\\w+Exact\\b");
        none(text, "13", "\\b(?:Thread|Runtime|Random|ProcessHandle)\\b|\\bMath\\.random\\b");
    }

    private static void words(String text) {
        none(text, "2", "->|::");
        none(text, "5", "\\bstatic\\s*\\{");
        // The document lets no call throw, so neither throw nor try has a place in it.
        none(text, "6", "\\b(?:throw|throws|try|catch|finally|synchronized|assert|volatile|native)\\b");
        none(text, "6", "\\b(?:equals|hashCode|toString)\\b");
        // A while is allowed, but a for shows its bound in its own line, and the class needs no other loop.
        none(text, "9", "\\b(?:while|do)\\b|for \\([^;]*;\\s*;");
    }

    private static void none(String text, String rule, String forbidden) {
        Matcher found = Pattern.compile(forbidden).matcher(text);
        while (found.find()) {
            Run.fail("rule " + rule + ": " + found.group());
        }
    }

    private static void lengths(String text) {
        int methods = 0;
        Matcher method = METHOD.matcher(text);
        while (method.find()) {
            methods++;
            if (method.group().split("\n").length > MOST_LINES) {
                Run.fail("rule 11: more than " + MOST_LINES + " lines: " + method.group().split("\n")[0].trim());
            }
        }
        if (methods < LeasedFiles.class.getDeclaredMethods().length) {
            Run.fail("rule 11: only " + methods + " methods could be measured");
        }
    }
}
