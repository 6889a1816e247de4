import java.util.Arrays;
import java.util.Random;

/** The class answers as a second writing of the document does. The seeds are fixed, so each run is the same. */
public final class SecondReadingTest {
    private static final int RUNS = 6000;
    private static final int MOST_MESSAGES = 64;
    private static final int[] ODD_NUMBERS = {-1, 4, 7, 64, 1000, 1001, Integer.MAX_VALUE, Integer.MIN_VALUE};

    private final Random random;
    private final int[] made;
    private final int seed;
    private final int clients;
    private final int files;
    private final LeasedFiles first;
    private final SecondReading second;
    private int calls = 0;
    private boolean same = true;

    public static void main(String[] args) {
        for (int seed = 0; seed < RUNS; seed++) {
            new SecondReadingTest(seed).go();
        }
        Run.end();
    }

    private SecondReadingTest(int seed) {
        this.seed = seed;
        this.random = new Random(seed);
        // Short terms are over often, and few clients and files meet often.
        this.made = new int[] {random.nextInt(6), random.nextInt(6), random.nextInt(12), random.nextInt(14)};
        this.clients = Math.max(1, Math.min(4, made[0]));
        this.files = Math.max(1, Math.min(4, made[1]));
        this.first = new LeasedFiles(made[0], made[1], made[2], made[3]);
        this.second = new SecondReading(made[0], made[1], made[2], made[3]);
    }

    /** Some runs let messages gather first, until the pool is full. */
    private void go() {
        boolean gathers = seed % 8 == 0;
        while (same && calls + 2 <= Run.MOST_CALLS) {
            gathers = gathers && second.call("pending") < MOST_MESSAGES;
            change(gathers ? random.nextInt(9) : random.nextInt(22));
            if (gathers) {
                both("retry", client());
            } else {
                ask(random.nextInt(10));
            }
        }
    }

    private void change(int which) {
        switch (which) {
            case 0: case 1: case 2: both("read", client(), file()); break;
            case 3: case 4: both("write", client(), file(), random.nextInt(100)); break;
            case 5: case 6: both("retry", client()); break;
            case 7: both("pass", client(), step()); break;
            case 8: both("tick", step()); break;
            case 9: both("lose", message()); break;
            case 10: rarely(); break;
            default: both("deliver", message()); break;
        }
    }

    private void rarely() {
        switch (random.nextInt(5)) {
            case 0: both("halt"); break;
            case 1: case 2: both("restart"); break;
            default: both("crash", client()); break;
        }
    }

    private void ask(int which) {
        switch (which) {
            case 0: both("status", client()); break;
            case 1: both("result", client()); break;
            case 2: both("version", client()); break;
            case 3: both("pending"); break;
            case 4: both("message", message(), odd(8)); break;
            case 5: both("copy", client(), file(), odd(4)); break;
            case 6: both("lease", client(), file()); break;
            case 7: both("file", file(), odd(5)); break;
            case 8: both("server", odd(5)); break;
            default: both("client", client(), odd(4)); break;
        }
    }

    private int client() {
        return odd(clients);
    }

    private int file() {
        return odd(files);
    }

    private int message() {
        return odd(Math.max(1, second.call("pending")));
    }

    private int step() {
        return odd(6);
    }

    private int odd(int count) {
        return random.nextInt(40) == 0 ? ODD_NUMBERS[random.nextInt(ODD_NUMBERS.length)] : random.nextInt(count);
    }

    private void both(String name, int... numbers) {
        calls++;
        int got = Run.call(first, name, Arrays.stream(numbers).boxed().toArray());
        int due = second.call(name, numbers);
        if (got != due) {
            same = false;
            Run.fail("seed " + seed + ", made with " + Arrays.toString(made) + ", call " + calls + ": " + name
                + Arrays.toString(numbers) + " answered " + got + ", the second reading " + due);
        }
    }
}
