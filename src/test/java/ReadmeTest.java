import java.io.IOException;
import java.lang.reflect.Method;
import java.lang.reflect.Modifier;
import java.nio.file.Files;
import java.nio.file.Path;
import java.util.List;
import java.util.regex.Matcher;
import java.util.regex.Pattern;

/** README.md tells the truth: its runs answer what stands beside them, and no call or test is left out. */
public final class ReadmeTest {
    private static final Path README = Path.of("README.md");
    private static final Path TESTS = Path.of("src/test/java");
    private static final Pattern MADE = Pattern.compile("LeasedFiles x = new LeasedFiles\\((\\d+), (\\d+), (\\d+), (\\d+)\\);.*");
    private static final Pattern CALLED = Pattern.compile("x\\.(\\w+)\\(([-\\d, ]*)\\); +// (-?\\d+|NONE|true|false)(:.*)?");

    public static void main(String[] args) throws IOException {
        String text = Files.readString(README);
        runs(List.of(text.split("\n")));
        everyCall(text);
        everyTest(text);
        Run.end();
    }

    private static void runs(List<String> lines) {
        boolean inRun = false;
        Run run = null;
        for (String line : lines) {
            if (line.startsWith("```")) {
                inRun = line.equals("```java");
                run = null;
            } else if (inRun && run == null) {
                run = made(line);
            } else if (inRun) {
                run.due(call(line));
            }
        }
    }

    private static Run made(String line) {
        Matcher m = matched(MADE, line);
        return Run.on("README.md", Integer.parseInt(m.group(1)), Integer.parseInt(m.group(2)),
            Integer.parseInt(m.group(3)), Integer.parseInt(m.group(4)));
    }

    private static String call(String line) {
        Matcher m = matched(CALLED, line);
        return m.group(1) + " " + m.group(2).replace(",", "") + " = " + number(m.group(3));
    }

    private static Matcher matched(Pattern pattern, String line) {
        Matcher m = pattern.matcher(line);
        if (!m.matches()) {
            throw new IllegalArgumentException("README.md has a line in a run that is no call with its answer: " + line);
        }
        return m;
    }

    private static String number(String answer) {
        switch (answer) {
            case "NONE": return String.valueOf(LeasedFiles.NONE);
            case "true": return "1";
            case "false": return "0";
            default: return answer;
        }
    }

    private static void everyCall(String text) {
        for (Method method : LeasedFiles.class.getDeclaredMethods()) {
            if (!Modifier.isPublic(method.getModifiers())) {
                continue;
            }
            String name = method.getName();
            String row = "(?m)^\\| `" + name + "\\(" + "\\w+, ".repeat(Math.max(0, method.getParameterCount() - 1))
                + (method.getParameterCount() == 0 ? "" : "\\w+") + "\\)` \\| .+ \\|$";
            if (!Pattern.compile(row).matcher(text).find()) {
                Run.fail("README.md has no row for " + method);
            }
            if (!Pattern.compile("(?m)^x\\." + name + "\\(").matcher(text).find()) {
                Run.fail("README.md has no run with " + method);
            }
        }
    }

    private static void everyTest(String text) throws IOException {
        try (var files = Files.list(TESTS)) {
            files.map(file -> file.getFileName().toString()).filter(name -> name.endsWith("Test.java"))
                .map(name -> name.replace(".java", "")).filter(name -> !text.contains("`" + name + "`"))
                .forEach(name -> Run.fail("README.md does not tell of " + name));
        }
    }
}
