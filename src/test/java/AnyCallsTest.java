import java.util.List;
import java.util.Random;

/** Calls without a plan: what must hold for any of them. The seeds are fixed, so each run is the same. */
public final class AnyCallsTest {
    private static final String[] NAMES = {
        "read", "write", "retry", "status", "result", "version", "deliver", "lose", "pending", "message",
        "tick", "pass", "crash", "halt", "restart", "copy", "lease", "file", "server", "client"};
    private static final int[] NUMBERS_TAKEN = {2, 3, 1, 1, 1, 1, 1, 1, 0, 2, 1, 2, 1, 0, 0, 3, 2, 2, 1, 2};
    private static final int[] ODD_NUMBERS = {
        -1, 4, 5, 7, 63, 64, 65, 1000, 1001, Integer.MAX_VALUE, Integer.MIN_VALUE, Integer.MIN_VALUE + 1};
    // What is asked at the end of a run takes calls too: with these two it is less than an object has.
    private static final int CALLS_BEFORE = 150;
    private static final int MESSAGES_AT_THE_END = 35;
    private static final int MOST_CALLS_A_STEP = 5;

    public static void main(String[] args) {
        for (int seed = 0; seed < 10000; seed++) {
            anyArguments(new Random(seed), seed);
        }
        for (int seed = 0; seed < 10000; seed++) {
            copiesAreNeverStale(new Random(seed), seed);
        }
        aLongLife();
        Run.end();
    }

    /** No call throws; what answers NONE or false, or only tells, changes nothing; the same calls answer the same. */
    private static void anyArguments(Random random, int seed) {
        int clients = random.nextInt(6);
        int files = random.nextInt(6);
        LeasedFiles x = new LeasedFiles(clients, files, 20, 15);
        LeasedFiles twin = new LeasedFiles(clients, files, 20, 15);
        int before = random.nextInt(CALLS_BEFORE);
        for (int i = 0; i < before; i++) {
            int which = random.nextInt(NAMES.length);
            Object[] numbers = anyNumbers(random, NUMBERS_TAKEN[which]);
            if (Run.call(x, NAMES[which], numbers) != Run.call(twin, NAMES[which], numbers)) {
                Run.fail("seed " + seed + ", call " + i + ": " + NAMES[which] + " does not answer the same twice");
            }
        }
        if (x.pending() <= MESSAGES_AT_THE_END) {
            refusedChangesNothing(x, twin, random, seed);
        }
    }

    /** Both objects have the same calls behind them; only the first gets one more. */
    private static void refusedChangesNothing(LeasedFiles x, LeasedFiles twin, Random random, int seed) {
        int which = random.nextInt(NAMES.length);
        String name = NAMES[which];
        int answer = Run.call(x, name, anyNumbers(random, NUMBERS_TAKEN[which]));
        boolean mayChange = answer != LeasedFiles.NONE && !onlyTells(name) && !refuses(name, answer);
        if (!mayChange && !Run.everything(x).equals(Run.everything(twin))) {
            Run.fail("seed " + seed + ", the last call: " + name + " answered " + answer + ", but changed something");
        }
    }

    private static Object[] anyNumbers(Random random, int count) {
        Object[] numbers = new Object[count];
        for (int n = 0; n < count; n++) {
            numbers[n] = random.nextInt(8) == 0 ? ODD_NUMBERS[random.nextInt(ODD_NUMBERS.length)] : random.nextInt(4);
        }
        return numbers;
    }

    private static boolean onlyTells(String name) {
        return List.of("status", "result", "version", "pending", "message", "copy", "lease", "file", "server", "client")
            .contains(name);
    }

    private static boolean refuses(String name, int answer) {
        return answer == 0 && List.of("read", "write", "retry", "lose").contains(name);
    }

    /** As long as no client's clock goes slower than the server's, a read that is done at once is of the newest version. */
    private static void copiesAreNeverStale(Random random, int seed) {
        int term = 1 + random.nextInt(12);
        LeasedFiles x = new LeasedFiles(3, 2, term, 1 + random.nextInt(term));
        for (int i = 0; i < Run.MOST_CALLS / MOST_CALLS_A_STEP; i++) {
            int c = random.nextInt(3);
            int f = random.nextInt(2);
            switch (random.nextInt(14)) {
                case 0: case 1: case 2:
                    if (x.read(c, f) == 1 && (x.version(c) != x.file(f, 1) || x.result(c) != x.file(f, 0))) {
                        Run.fail("seed " + seed + ", step " + i + ": a read at once got version " + x.version(c) + " of " + x.file(f, 1));
                    }
                    break;
                case 3: x.write(c, f, random.nextInt()); break;
                case 4: x.retry(c); break;
                case 5: goOn(x, random); break;
                case 6: rarely(x, random, c); break;
                default: deliverAny(x, random); break;
            }
        }
    }

    private static void goOn(LeasedFiles x, Random random) {
        int n = random.nextInt(4);
        for (int c = 0; c < 3; c++) {
            x.pass(c, n + (random.nextInt(5) == 0 ? 1 : 0));
        }
        x.tick(n);
    }

    private static void rarely(LeasedFiles x, Random random, int c) {
        switch (random.nextInt(8)) {
            case 0: x.crash(c); break;
            case 1: x.halt(); break;
            case 2: case 3: x.restart(); break;
            default: x.lose(random.nextInt(3)); break;
        }
    }

    private static void deliverAny(LeasedFiles x, Random random) {
        if (x.pending() > 0) {
            x.deliver(random.nextInt(x.pending()));
        }
    }

    /** What calls beyond the 512th answer is free, but none may throw. */
    private static void aLongLife() {
        LeasedFiles x = new LeasedFiles(2, 1, 1000, 1000);
        x.read(1, 0);
        x.deliver(0);
        x.lose(0);
        for (int i = 0; i < 2000; i++) {
            x.write(0, 0, i);
            x.deliver(0);
            x.lose(0);
            x.crash(0);
        }
        x.tick(1000);
        for (int i = 0; i < 2200000; i++) {
            x.tick(1000);
            x.pass(0, 1000);
        }
        x.read(0, 0);
        x.deliver(0);
        x.deliver(0);
        x.read(0, 0);
    }
}
