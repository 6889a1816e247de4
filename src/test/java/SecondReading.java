import java.util.ArrayList;
import java.util.HashMap;
import java.util.List;
import java.util.Map;

/**
 * The document once more, written apart from the class and held in another way: what is gone or over is
 * not there, and the writes of all files wait in one list. Where the two answer otherwise, one of them
 * was read or written wrong.
 */
final class SecondReading {
    private static final int NONE = -1;

    private record Message(int kind, int client, int file, int word, int a, int b, int c) { }

    private record Place(int client, int file) { }

    private record Copy(int value, int version, int end) { }

    private record LastWrite(int word, int version) { }

    private record Outcome(int result, int version) { }

    private static final class Operation {
        Message request;
        int began;
        boolean spoiled;
        Outcome outcome;

        boolean waitsFor(int kind) {
            return outcome == null && request.kind() == kind;
        }
    }

    private final int clients;
    private final int files;
    private final int term;
    private final int shorter;
    private final List<Message> pool = new ArrayList<>();
    private final Map<Integer, Operation> operations = new HashMap<>();
    private final Map<Integer, Integer> words = new HashMap<>();
    private final Map<Integer, Integer> clocks = new HashMap<>();
    private final Map<Place, Copy> copies = new HashMap<>();
    private final Map<Place, Integer> leases = new HashMap<>();
    private final Map<Integer, Outcome> stored = new HashMap<>();
    private final Map<Integer, LastWrite> lastWrites = new HashMap<>();
    private final List<Message> waiting = new ArrayList<>();
    private boolean down = false;
    private int clock = 0;
    private int epoch = 0;
    private int graceEnd = 0;

    SecondReading(int clients, int files, int term, int shorter) {
        this.clients = between1And(4, clients);
        this.files = between1And(4, files);
        this.term = between1And(1000, term);
        this.shorter = between1And(this.term, shorter);
    }

    /** The answer to a call of the face; a boolean counts 1 or 0. */
    int call(String name, int... n) {
        switch (name) {
            case "read": return noClient(n[0]) || noFile(n[1]) ? NONE : begin(n[0], n[1], 0, 0);
            case "write": return noClient(n[0]) || noFile(n[1]) ? NONE : begin(n[0], n[1], 1, n[2]);
            case "retry": return noClient(n[0]) ? NONE : retry(n[0]);
            case "status": return noClient(n[0]) ? NONE : status(n[0]);
            case "result": return status(n[0]) == 1 ? operations.get(n[0]).outcome.result() : 0;
            case "version": return status(n[0]) == 1 ? operations.get(n[0]).outcome.version() : NONE;
            case "deliver": return noMessage(n[0]) ? NONE : comes(pool.remove(n[0]));
            case "lose": return noMessage(n[0]) || pool.remove(n[0]) == null ? 0 : 1;
            case "pending": return pool.size();
            case "message": return noMessage(n[0]) ? NONE : partOf(pool.get(n[0]), n[1]);
            case "tick": return noStep(n[0]) ? NONE : tick(n[0]);
            case "pass": return noClient(n[0]) || noStep(n[1]) ? NONE : clocks.merge(n[0], n[1], Integer::sum);
            case "crash": return noClient(n[0]) ? NONE : crash(n[0]);
            case "halt": return down ? NONE : halt();
            case "restart": return down ? restart() : NONE;
            case "copy": return noClient(n[0]) || noFile(n[1]) ? NONE : copy(n[0], n[1], n[2]);
            case "lease": return noClient(n[0]) || noFile(n[1]) ? NONE : lease(n[0], n[1]);
            case "file": return noFile(n[0]) ? NONE : file(n[0], n[1]);
            case "server": return server(n[0]);
            case "client": return noClient(n[0]) ? NONE : client(n[0], n[1]);
            default: throw new IllegalArgumentException("no such call: " + name);
        }
    }

    private static int between1And(int most, int told) {
        return told < 1 ? 1 : told > most ? most : told;
    }

    private boolean noClient(int c) {
        return c < 0 || c >= clients;
    }

    private boolean noFile(int f) {
        return f < 0 || f >= files;
    }

    private boolean noMessage(int k) {
        return k < 0 || k >= pool.size();
    }

    private static boolean noStep(int n) {
        return n < 0 || n > 1000;
    }

    private void send(Message m) {
        if (pool.size() != 64) {
            pool.add(m);
        }
    }

    private int clockOf(int c) {
        return clocks.getOrDefault(c, 0);
    }

    private Outcome storedIn(int f) {
        return stored.getOrDefault(f, new Outcome(0, 0));
    }

    private int status(int c) {
        Operation own = operations.get(c);
        return own == null ? 0 : own.outcome != null ? 1 : 2;
    }

    private int begin(int c, int f, int kind, int value) {
        if (status(c) == 2) {
            return 0;
        }
        Operation own = new Operation();
        own.request = new Message(kind, c, f, words.merge(c, 1, Integer::sum), value, 0, 0);
        own.began = clockOf(c);
        operations.put(c, own);
        Place place = new Place(c, f);
        if (kind == 0 && copies.containsKey(place) && copies.get(place).end() > clockOf(c)) {
            own.outcome = new Outcome(copies.get(place).value(), copies.get(place).version());
            return 1;
        }
        if (kind == 1) {
            copies.remove(place);
        }
        send(own.request);
        return 2;
    }

    private int retry(int c) {
        if (status(c) != 2) {
            return 0;
        }
        send(operations.get(c).request);
        return words.get(c);
    }

    private int crash(int c) {
        operations.remove(c);
        int before = copies.size();
        copies.keySet().removeIf(place -> place.client() == c);
        return before - copies.size();
    }

    private int comes(Message m) {
        boolean toServer = m.kind() == 0 || m.kind() == 1 || m.kind() == 5;
        if (toServer && down) {
            return 9;
        }
        switch (m.kind()) {
            case 0: ask(m); break;
            case 1: put(m); break;
            case 2: given(m); break;
            case 3: storedComes(m); break;
            case 4: recall(m); break;
            default: free(m); break;
        }
        if (toServer) {
            store();
        }
        return m.kind();
    }

    private void given(Message m) {
        Operation own = operations.get(m.client());
        if (own == null || !own.waitsFor(0) || own.request.word() != m.word()) {
            return;
        }
        own.outcome = new Outcome(m.a(), m.b());
        if (m.c() == 1 && !own.spoiled) {
            copies.put(new Place(m.client(), m.file()), new Copy(m.a(), m.b(), own.began + shorter));
        }
    }

    private void storedComes(Message m) {
        Operation own = operations.get(m.client());
        if (own != null && own.waitsFor(1) && own.request.word() == m.word()) {
            own.outcome = new Outcome(m.a(), m.a());
        }
    }

    private void recall(Message m) {
        copies.remove(new Place(m.client(), m.file()));
        Operation own = operations.get(m.client());
        if (own != null && own.waitsFor(0) && own.request.file() == m.file()) {
            own.spoiled = true;
        }
        send(new Message(5, m.client(), m.file(), m.word(), m.a(), m.b(), 0));
    }

    private void ask(Message m) {
        boolean leased = waitingFor(m.file()).isEmpty();
        if (leased) {
            leases.put(new Place(m.client(), m.file()), clock + term);
        }
        Outcome held = storedIn(m.file());
        send(new Message(2, m.client(), m.file(), m.word(), held.result(), held.version(), leased ? 1 : 0));
    }

    private void put(Message m) {
        LastWrite last = lastWrites.get(m.client());
        if (last != null && last.word() == m.word()) {
            send(new Message(3, m.client(), m.file(), m.word(), last.version(), 0, 0));
            return;
        }
        if (last != null && m.word() < last.word()) {
            return;
        }
        // A PUT that is sent again is equal to the first one in all its parts.
        if (!waiting.contains(m)) {
            waiting.add(m);
        }
        if (waitingFor(m.file()).get(0).equals(m)) {
            for (int c = 0; c < clients; c++) {
                if (lease(c, m.file()) > 0) {
                    send(new Message(4, c, m.file(), m.word(), m.client(), epoch, 0));
                }
            }
        }
    }

    private void free(Message m) {
        List<Message> line = waitingFor(m.file());
        if (m.b() == epoch && !line.isEmpty() && line.get(0).client() == m.a() && line.get(0).word() == m.word()) {
            leases.remove(new Place(m.client(), m.file()));
        }
    }

    private List<Message> waitingFor(int f) {
        List<Message> line = new ArrayList<>();
        for (Message put : waiting) {
            if (put.file() == f) {
                line.add(put);
            }
        }
        return line;
    }

    private int store() {
        int count = 0;
        for (int f = 0; f < files; f++) {
            if (clock < graceEnd || isLeased(f)) {
                continue;
            }
            for (Message put : waitingFor(f)) {
                storeOne(put);
                count++;
            }
        }
        return count;
    }

    private boolean isLeased(int f) {
        for (int c = 0; c < clients; c++) {
            if (lease(c, f) > 0) {
                return true;
            }
        }
        return false;
    }

    private void storeOne(Message put) {
        waiting.remove(put);
        int version = storedIn(put.file()).version() + 1;
        stored.put(put.file(), new Outcome(put.a(), version));
        LastWrite last = lastWrites.get(put.client());
        if (last == null || put.word() > last.word()) {
            lastWrites.put(put.client(), new LastWrite(put.word(), version));
        }
        send(new Message(3, put.client(), put.file(), put.word(), version, 0, 0));
    }

    private int tick(int n) {
        clock += n;
        return store();
    }

    private int halt() {
        int count = waiting.size();
        waiting.clear();
        leases.clear();
        down = true;
        return count;
    }

    private int restart() {
        down = false;
        graceEnd = clock + term;
        return ++epoch;
    }

    private static int partOf(Message m, int what) {
        int[] parts = {m.kind(), m.client(), m.file(), m.word(), m.a(), m.b(), m.c()};
        return what < 0 || what >= parts.length ? NONE : parts[what];
    }

    private int copy(int c, int f, int what) {
        Copy held = copies.get(new Place(c, f));
        if (held == null || what < 0 || what > 2) {
            return NONE;
        }
        return what == 0 ? Math.max(0, held.end() - clockOf(c)) : what == 1 ? held.value() : held.version();
    }

    private int lease(int c, int f) {
        return Math.max(0, leases.getOrDefault(new Place(c, f), 0) - clock);
    }

    private int file(int f, int what) {
        List<Message> line = waitingFor(f);
        switch (what) {
            case 0: return storedIn(f).result();
            case 1: return storedIn(f).version();
            case 2: return line.size();
            case 3: return line.isEmpty() ? NONE : line.get(0).client();
            default: return NONE;
        }
    }

    private int server(int what) {
        int[] parts = {clock, down ? 0 : 1, epoch, Math.max(0, graceEnd - clock)};
        return what < 0 || what >= parts.length ? NONE : parts[what];
    }

    private int client(int c, int what) {
        Operation own = operations.get(c);
        switch (what) {
            case 0: return words.getOrDefault(c, 0);
            case 1: return own != null && own.waitsFor(0) && own.spoiled ? 1 : 0;
            default: return clockOf(c);
        }
    }
}
