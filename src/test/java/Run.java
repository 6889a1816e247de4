import java.lang.reflect.InvocationTargetException;
import java.lang.reflect.Method;
import java.util.ArrayList;
import java.util.Arrays;
import java.util.List;

/** A run of calls on a fresh object, told as texts such as "read 0 1 = 2" (a boolean counts 1 or 0). */
final class Run {
    /** What an object answers after these is free, so no run may rest on it. */
    static final int MOST_CALLS = 512;

    private static int wrong = 0;

    private final String title;
    private final int[] made;
    private final LeasedFiles files;
    private final List<String> calls = new ArrayList<>();

    private Run(String title, int... made) {
        this.title = title;
        this.made = made;
        this.files = fresh();
    }

    static Run on(String title, int clients, int files, int term, int shorter) {
        return new Run(title, clients, files, term, shorter);
    }

    /** For a sentence of the document, and the edge of it that the run goes to. */
    static Run on(String sentence, String edge, int clients, int files, int term, int shorter) {
        return new Run('"' + sentence + "\", " + edge, clients, files, term, shorter);
    }

    Run due(String... lines) {
        for (String line : lines) {
            for (String call : line.split(";")) {
                dueOne(call.trim());
            }
        }
        return this;
    }

    Run times(int n, String... lines) {
        for (int i = 0; i < n; i++) {
            due(lines);
        }
        return this;
    }

    /** The client reads the file and gets a copy of it, with a lease; the pool is empty before and after. */
    Run copyFor(int c, int f) {
        return due("read " + c + " " + f + " = 2; deliver 0 = 0; message 0 6 = 1; deliver 0 = 2; pending = 0");
    }

    /** The client writes the file, which nobody has a lease of; the pool is empty before and after. */
    Run storedBy(int c, int f, int value) {
        return due("write " + c + " " + f + " " + value + " = 2; deliver 0 = 1; deliver 0 = 3; pending = 0");
    }

    /**
     * Much is under way, with two clients, two files and a term of 10: a copy, leases, a write and a spoiled
     * read that wait, GIVEN and FREE in the pool, an epoch, a grace, and clocks that do not show the same.
     */
    Run busy() {
        return due("halt = 0; restart = 1").copyFor(0, 0)
            .due("pass 0 3 = 3; tick 4 = 0; read 1 1 = 2; deliver 0 = 0; write 0 1 7 = 2; deliver 1 = 1; deliver 1 = 4; pending = 2");
    }

    /** The calls answer as due, and nothing that can be asked for is another after them. */
    Run refused(String... lines) {
        try {
            List<Integer> before = everything(again());
            due(lines);
            if (!everything(again()).equals(before)) {
                fail(title + ": after call " + calls.size() + ", " + Arrays.toString(lines) + " changed something");
            }
        } catch (RuntimeException e) {
            fail(title + ": after call " + calls.size() + ", " + e);
        }
        return this;
    }

    /** The same call is refused with each number in the place of # that is not 0 .. count - 1. */
    Run refusedBeyond(int count, String call) {
        for (int n : new int[] {-1, count, count + 1, Integer.MIN_VALUE, Integer.MAX_VALUE}) {
            refused(call.replace("#", String.valueOf(n)));
        }
        return this;
    }

    private LeasedFiles fresh() {
        return new LeasedFiles(made[0], made[1], made[2], made[3]);
    }

    /** Another object, with the same calls behind it: to ask it everything takes no call from this one. */
    private LeasedFiles again() {
        LeasedFiles twin = fresh();
        for (String call : calls) {
            answer(twin, call);
        }
        return twin;
    }

    private void dueOne(String told) {
        String[] sides = told.split("=");
        String call = sides[0].trim();
        int want = Integer.parseInt(sides[1].trim());
        calls.add(call);
        try {
            int got = answer(files, call);
            if (got != want) {
                fail(title + ": call " + calls.size() + ", " + call + " answered " + got + ", due is " + want);
            }
        } catch (IllegalStateException e) {
            fail(title + ": call " + calls.size() + ", " + e.getMessage() + " " + e.getCause());
        }
        if (calls.size() > MOST_CALLS) {
            fail(title + ": call " + calls.size() + " is one too many");
        }
    }

    private static int answer(LeasedFiles files, String call) {
        String[] words = call.split(" +");
        Object[] numbers = new Object[words.length - 1];
        for (int i = 0; i < numbers.length; i++) {
            numbers[i] = Integer.valueOf(words[i + 1]);
        }
        return call(files, words[0], numbers);
    }

    static int call(LeasedFiles files, String name, Object... numbers) {
        Class<?>[] types = new Class<?>[numbers.length];
        Arrays.fill(types, int.class);
        try {
            Method method = LeasedFiles.class.getMethod(name, types);
            Object got = method.invoke(files, numbers);
            return got instanceof Boolean ? ((Boolean) got ? 1 : 0) : (Integer) got;
        } catch (NoSuchMethodException | IllegalAccessException e) {
            throw new IllegalArgumentException("no such call: " + name, e);
        } catch (InvocationTargetException e) {
            throw new IllegalStateException(name + Arrays.toString(numbers) + " threw", e.getCause());
        }
    }

    /** Every answer that a call can give without changing anything. */
    static List<Integer> everything(LeasedFiles x) {
        List<Integer> seen = new ArrayList<>();
        int pending = x.pending();
        seen.add(pending);
        for (int k = 0; k < pending; k++) {
            for (int what = 0; what <= 6; what++) {
                seen.add(x.message(k, what));
            }
        }
        for (int what = 0; what <= 3; what++) {
            seen.add(x.server(what));
            for (int f = 0; f < 4; f++) {
                seen.add(x.file(f, what));
            }
        }
        for (int c = 0; c < 4; c++) {
            seen.addAll(List.of(x.status(c), x.result(c), x.version(c)));
            seen.addAll(List.of(x.client(c, 0), x.client(c, 1), x.client(c, 2)));
            for (int f = 0; f < 4; f++) {
                seen.addAll(List.of(x.lease(c, f), x.copy(c, f, 0), x.copy(c, f, 1), x.copy(c, f, 2)));
            }
        }
        return seen;
    }

    static void fail(String text) {
        wrong++;
        System.out.println(text);
    }

    /** Ends the program: exit code 1 if an answer was not as due. */
    static void end() {
        System.out.println(wrong == 0 ? "all answers are as due" : wrong + " answers are not as due");
        if (wrong != 0) {
            System.exit(1);
        }
    }
}
