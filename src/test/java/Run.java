import java.lang.reflect.InvocationTargetException;
import java.lang.reflect.Method;
import java.util.ArrayList;
import java.util.Arrays;
import java.util.List;

/** A run of calls on a fresh object, told as texts such as "read 0 1 = 2" (a boolean counts 1 or 0). */
final class Run {
    private static int wrong = 0;

    private final String title;
    private final LeasedFiles files;
    private int calls = 0;

    private Run(String title, LeasedFiles files) {
        this.title = title;
        this.files = files;
    }

    static Run on(String title, int clients, int files, int term, int shorter) {
        return new Run(title, new LeasedFiles(clients, files, term, shorter));
    }

    Run due(String... lines) {
        for (String line : lines) {
            for (String call : line.split(";")) {
                dueOne(call.trim());
            }
        }
        return this;
    }

    Run times(int n, String... lines) {
        for (int i = 0; i < n; i++) {
            due(lines);
        }
        return this;
    }

    private void dueOne(String call) {
        calls++;
        String[] sides = call.split("=");
        int want = Integer.parseInt(sides[1].trim());
        int got = answer(files, sides[0].trim().split(" +"));
        if (got != want) {
            fail(title + ": call " + calls + ", " + sides[0].trim() + " answered " + got + ", due is " + want);
        }
    }

    private static int answer(LeasedFiles files, String[] words) {
        Object[] numbers = new Object[words.length - 1];
        for (int i = 0; i < numbers.length; i++) {
            numbers[i] = Integer.valueOf(words[i + 1]);
        }
        return call(files, words[0], numbers);
    }

    static int call(LeasedFiles files, String name, Object... numbers) {
        Class<?>[] types = new Class<?>[numbers.length];
        Arrays.fill(types, int.class);
        try {
            Method method = LeasedFiles.class.getMethod(name, types);
            Object got = method.invoke(files, numbers);
            return got instanceof Boolean ? ((Boolean) got ? 1 : 0) : (Integer) got;
        } catch (NoSuchMethodException | IllegalAccessException e) {
            throw new IllegalArgumentException("no such call: " + name, e);
        } catch (InvocationTargetException e) {
            throw new IllegalStateException(name + Arrays.toString(numbers) + " threw", e.getCause());
        }
    }

    /** Every answer that a call can give without changing anything. */
    static List<Integer> everything(LeasedFiles x) {
        List<Integer> seen = new ArrayList<>();
        seen.add(x.pending());
        for (int k = 0; k < x.pending(); k++) {
            for (int what = 0; what <= 6; what++) {
                seen.add(x.message(k, what));
            }
        }
        for (int what = 0; what <= 3; what++) {
            seen.add(x.server(what));
            for (int f = 0; f < 4; f++) {
                seen.add(x.file(f, what));
            }
        }
        for (int c = 0; c < 4; c++) {
            seen.addAll(List.of(x.status(c), x.result(c), x.version(c)));
            seen.addAll(List.of(x.client(c, 0), x.client(c, 1), x.client(c, 2)));
            for (int f = 0; f < 4; f++) {
                seen.addAll(List.of(x.lease(c, f), x.copy(c, f, 0), x.copy(c, f, 1), x.copy(c, f, 2)));
            }
        }
        return seen;
    }

    static void fail(String text) {
        wrong++;
        System.out.println(text);
    }

    /** Ends the program: exit code 1 if an answer was not as due. */
    static void end() {
        System.out.println(wrong == 0 ? "all answers are as due" : wrong + " answers are not as due");
        if (wrong != 0) {
            System.exit(1);
        }
    }
}
