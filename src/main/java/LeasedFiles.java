import java.util.ArrayList;

/**
 * Files on a server, and clients that keep copies of them for as long as a lease lasts.
 * The caller plays the network and the clocks: it says which message comes or is lost,
 * and how far each clock goes.
 */
public final class LeasedFiles {
    public static final int NONE = -1;

    private static final int MOST_CLIENTS = 4;
    private static final int MOST_FILES = 4;
    private static final int LONGEST_TERM = 1000;
    private static final int LONGEST_STEP = 1000;
    private static final int MOST_MESSAGES = 64;
    // A waiting write took a write() and a deliver() of its own, and there are 512 calls.
    private static final int MOST_WAITING = 256;

    private static final int ASK = 0;
    private static final int PUT = 1;
    private static final int GIVEN = 2;
    private static final int STORED = 3;
    private static final int RECALL = 4;
    private static final int FREE = 5;
    private static final int SERVER_WAS_DOWN = 9;

    private static final int IDLE = 0;
    private static final int DONE = 1;
    private static final int WAITING = 2;

    private final Pool pool;
    private final Server server;
    private final Client[] clients;
    private final int files;

    public LeasedFiles(int clients, int files, int term, int shorter) {
        int clientCount = clamp(clients, MOST_CLIENTS);
        int serverTerm = clamp(term, LONGEST_TERM);
        int clientTerm = clamp(shorter, serverTerm);
        this.files = clamp(files, MOST_FILES);
        this.pool = new Pool();
        this.server = new Server(clientCount, this.files, serverTerm);
        this.clients = new Client[clientCount];
        for (int c = 0; c < clientCount; c++) {
            this.clients[c] = new Client(c, this.files, clientTerm);
        }
    }

    public int read(int c, int f) {
        if (!hasClient(c) || !hasFile(f)) {
            return NONE;
        }
        return clients[c].startRead(f, pool);
    }

    public int write(int c, int f, int value) {
        if (!hasClient(c) || !hasFile(f)) {
            return NONE;
        }
        return clients[c].startWrite(f, value, pool);
    }

    public int retry(int c) {
        return hasClient(c) ? clients[c].sendAgain(pool) : NONE;
    }

    public int status(int c) {
        return hasClient(c) ? clients[c].state : NONE;
    }

    public int result(int c) {
        return isDone(c) ? clients[c].doneResult : 0;
    }

    public int version(int c) {
        return isDone(c) ? clients[c].doneVersion : NONE;
    }

    public int deliver(int k) {
        if (!pool.holds(k)) {
            return NONE;
        }
        Message m = pool.takeOut(k);
        if (m.goesToServer()) {
            return server.receive(m, pool) ? m.kind : SERVER_WAS_DOWN;
        }
        clients[m.client].receive(m, pool);
        return m.kind;
    }

    public boolean lose(int k) {
        if (!pool.holds(k)) {
            return false;
        }
        pool.takeOut(k);
        return true;
    }

    public int pending() {
        return pool.count;
    }

    public int message(int k, int what) {
        return pool.holds(k) ? pool.messages[k].part(what) : NONE;
    }

    public int tick(int n) {
        return isStep(n) ? server.letTimeGoBy(n, pool) : NONE;
    }

    public int pass(int c, int n) {
        if (!hasClient(c) || !isStep(n)) {
            return NONE;
        }
        clients[c].clock += n;
        return clients[c].clock;
    }

    public int crash(int c) {
        return hasClient(c) ? clients[c].forget() : NONE;
    }

    public int halt() {
        return server.up ? server.goDown() : NONE;
    }

    public int restart() {
        return server.up ? NONE : server.comeUp();
    }

    public int copy(int c, int f, int what) {
        if (!hasClient(c) || !hasFile(f)) {
            return NONE;
        }
        return clients[c].copies[f].part(what, clients[c].clock);
    }

    public int lease(int c, int f) {
        if (!hasClient(c) || !hasFile(f)) {
            return NONE;
        }
        return timeLeft(server.files[f].leaseEnds[c], server.clock);
    }

    public int file(int f, int what) {
        return hasFile(f) ? server.files[f].part(what) : NONE;
    }

    public int server(int what) {
        return server.part(what);
    }

    public int client(int c, int what) {
        return hasClient(c) ? clients[c].part(what) : NONE;
    }

    private boolean hasClient(int c) {
        return c >= 0 && c < clients.length;
    }

    private boolean hasFile(int f) {
        return f >= 0 && f < files;
    }

    private boolean isDone(int c) {
        return hasClient(c) && clients[c].state == DONE;
    }

    private static boolean isStep(int n) {
        return n >= 0 && n <= LONGEST_STEP;
    }

    private static int clamp(int n, int most) {
        return Math.max(1, Math.min(n, most));
    }

    private static int timeLeft(int end, int clock) {
        return Math.max(0, end - clock);
    }

    private static final class Message {
        int kind;
        int client;
        int file;
        int word;
        int a;
        int b;
        int c;

        boolean goesToServer() {
            return kind == ASK || kind == PUT || kind == FREE;
        }

        int part(int what) {
            switch (what) {
                case 0: return kind;
                case 1: return client;
                case 2: return file;
                case 3: return word;
                case 4: return a;
                case 5: return b;
                case 6: return c;
                default: return NONE;
            }
        }
    }

    /** The messages under way; they are made once and used again. */
    private static final class Pool {
        final Message[] messages = new Message[MOST_MESSAGES];
        int count = 0;
        // One more than the pool holds, so that an answer never overwrites the message it answers.
        Message takenOut = new Message();

        Pool() {
            for (int k = 0; k < MOST_MESSAGES; k++) {
                messages[k] = new Message();
            }
        }

        boolean holds(int k) {
            return k >= 0 && k < count;
        }

        void send(int kind, int client, int file, int word, int a, int b, int c) {
            if (count >= MOST_MESSAGES) {
                return;
            }
            Message m = messages[count];
            m.kind = kind;
            m.client = client;
            m.file = file;
            m.word = word;
            m.a = a;
            m.b = b;
            m.c = c;
            count++;
        }

        /** What it answers stays as it is until the next message is taken out. */
        Message takeOut(int k) {
            Message taken = messages[k];
            for (int i = k; i < count - 1; i++) {
                messages[i] = messages[i + 1];
            }
            count--;
            messages[count] = takenOut;
            takenOut = taken;
            return taken;
        }
    }

    /** A client's copy of one file, or the place for it. */
    private static final class Copy {
        boolean held = false;
        int value = 0;
        int version = 0;
        int leaseEnd = 0;

        boolean isGoodAt(int clock) {
            return held && leaseEnd > clock;
        }

        void hold(int newValue, int newVersion, int newEnd) {
            held = true;
            value = newValue;
            version = newVersion;
            leaseEnd = newEnd;
        }

        int part(int what, int clock) {
            if (!held) {
                return NONE;
            }
            switch (what) {
                case 0: return timeLeft(leaseEnd, clock);
                case 1: return value;
                case 2: return version;
                default: return NONE;
            }
        }
    }

    private static final class Client {
        final int number;
        final int term;
        final Copy[] copies;
        int clock = 0;
        int state = IDLE;
        // The latest operation; its word outlives a crash, the rest counts only while it is not idle.
        int word = 0;
        boolean reads = false;
        int file = 0;
        int value = 0;
        int startedAt = 0;
        boolean spoiled = false;
        int doneResult = 0;
        int doneVersion = 0;

        Client(int number, int files, int term) {
            this.number = number;
            this.term = term;
            this.copies = new Copy[files];
            for (int f = 0; f < files; f++) {
                this.copies[f] = new Copy();
            }
        }

        int startRead(int f, Pool pool) {
            if (state == WAITING) {
                return 0;
            }
            startOperation(f, true);
            Copy own = copies[f];
            if (own.isGoodAt(clock)) {
                finish(own.value, own.version);
            } else {
                sendRequest(pool);
            }
            return state;
        }

        int startWrite(int f, int newValue, Pool pool) {
            if (state == WAITING) {
                return 0;
            }
            startOperation(f, false);
            value = newValue;
            copies[f].held = false;
            sendRequest(pool);
            return state;
        }

        int sendAgain(Pool pool) {
            if (state != WAITING) {
                return 0;
            }
            sendRequest(pool);
            return word;
        }

        int forget() {
            int had = 0;
            for (int f = 0; f < copies.length; f++) {
                if (copies[f].held) {
                    had++;
                }
                copies[f].held = false;
            }
            state = IDLE;
            return had;
        }

        void receive(Message m, Pool pool) {
            switch (m.kind) {
                case GIVEN: receiveGiven(m); break;
                case STORED: receiveStored(m); break;
                case RECALL: receiveRecall(m, pool); break;
                default: break;
            }
        }

        int part(int what) {
            switch (what) {
                case 0: return word;
                case 1: return waitsToRead() && spoiled ? 1 : 0;
                default: return clock;
            }
        }

        private void startOperation(int f, boolean isRead) {
            word++;
            state = WAITING;
            reads = isRead;
            file = f;
            startedAt = clock;
            spoiled = false;
        }

        private void sendRequest(Pool pool) {
            if (reads) {
                pool.send(ASK, number, file, word, 0, 0, 0);
            } else {
                pool.send(PUT, number, file, word, value, 0, 0);
            }
        }

        private void receiveGiven(Message m) {
            if (!waitsToRead() || m.word != word) {
                return;
            }
            finish(m.a, m.b);
            if (m.c == 1 && !spoiled) {
                // Counted from the start, for the server may have counted from any time since.
                copies[m.file].hold(m.a, m.b, startedAt + term);
            }
        }

        private void receiveStored(Message m) {
            if (waitsToWrite() && m.word == word) {
                finish(m.a, m.a);
            }
        }

        private void receiveRecall(Message m, Pool pool) {
            copies[m.file].held = false;
            if (waitsToRead() && m.file == file) {
                spoiled = true;
            }
            pool.send(FREE, number, m.file, m.word, m.a, m.b, 0);
        }

        private boolean waitsToRead() {
            return state == WAITING && reads;
        }

        private boolean waitsToWrite() {
            return state == WAITING && !reads;
        }

        private void finish(int newResult, int newVersion) {
            state = DONE;
            doneResult = newResult;
            doneVersion = newVersion;
        }
    }

    /** A write that waits at the server. */
    private static final class Write {
        final int client;
        final int word;
        final int value;

        Write(int client, int word, int value) {
            this.client = client;
            this.word = word;
            this.value = value;
        }

        boolean isOf(int someClient, int someWord) {
            return client == someClient && word == someWord;
        }
    }

    /** What the server knows of one file. */
    private static final class ServedFile {
        final int[] leaseEnds;
        final ArrayList<Write> waiting = new ArrayList<>();
        int value = 0;
        int version = 0;

        ServedFile(int clients) {
            this.leaseEnds = new int[clients];
        }

        boolean isLeasedAt(int clock) {
            for (int c = 0; c < leaseEnds.length; c++) {
                if (leaseEnds[c] > clock) {
                    return true;
                }
            }
            return false;
        }

        void endLeases(int clock) {
            for (int c = 0; c < leaseEnds.length; c++) {
                leaseEnds[c] = clock;
            }
        }

        boolean isFirst(int client, int word) {
            return !waiting.isEmpty() && waiting.get(0).isOf(client, word);
        }

        boolean isWaiting(int client, int word) {
            for (int i = 0; i < waiting.size(); i++) {
                if (waiting.get(i).isOf(client, word)) {
                    return true;
                }
            }
            return false;
        }

        void addLast(int client, int word, int newValue) {
            if (waiting.size() < MOST_WAITING) {
                waiting.add(new Write(client, word, newValue));
            }
        }

        int part(int what) {
            switch (what) {
                case 0: return value;
                case 1: return version;
                case 2: return waiting.size();
                case 3: return waiting.isEmpty() ? NONE : waiting.get(0).client;
                default: return NONE;
            }
        }
    }

    private static final class Server {
        final int term;
        final ServedFile[] files;
        // Of each client's last write that was stored; these and the files outlive a halt.
        final int[] lastWords;
        final int[] lastVersions;
        int clock = 0;
        boolean up = true;
        int epoch = 0;
        int graceEnd = 0;

        Server(int clients, int fileCount, int term) {
            this.term = term;
            this.lastWords = new int[clients];
            this.lastVersions = new int[clients];
            this.files = new ServedFile[fileCount];
            for (int f = 0; f < fileCount; f++) {
                this.files[f] = new ServedFile(clients);
            }
        }

        /** Answers whether it was up to receive anything. */
        boolean receive(Message m, Pool pool) {
            if (!up) {
                return false;
            }
            switch (m.kind) {
                case ASK: receiveAsk(m, pool); break;
                case PUT: receivePut(m, pool); break;
                case FREE: receiveFree(m); break;
                default: break;
            }
            storeWhatMay(pool);
            return true;
        }

        int letTimeGoBy(int n, Pool pool) {
            clock += n;
            return storeWhatMay(pool);
        }

        int goDown() {
            int waited = 0;
            for (int f = 0; f < files.length; f++) {
                waited += files[f].waiting.size();
                files[f].waiting.clear();
                files[f].endLeases(clock);
            }
            up = false;
            return waited;
        }

        int comeUp() {
            up = true;
            epoch++;
            // Clients may still hold leases that it forgot; none of these lasts longer than a term.
            graceEnd = clock + term;
            return epoch;
        }

        int part(int what) {
            switch (what) {
                case 0: return clock;
                case 1: return up ? 1 : 0;
                case 2: return epoch;
                case 3: return timeLeft(graceEnd, clock);
                default: return NONE;
            }
        }

        private void receiveAsk(Message m, Pool pool) {
            ServedFile asked = files[m.file];
            boolean leased = asked.waiting.isEmpty();
            if (leased) {
                asked.leaseEnds[m.client] = clock + term;
            }
            pool.send(GIVEN, m.client, m.file, m.word, asked.value, asked.version, leased ? 1 : 0);
        }

        private void receivePut(Message m, Pool pool) {
            int last = lastWords[m.client];
            if (m.word == last) {
                pool.send(STORED, m.client, m.file, m.word, lastVersions[m.client], 0, 0);
            }
            if (m.word <= last) {
                return;
            }
            ServedFile written = files[m.file];
            if (!written.isWaiting(m.client, m.word)) {
                written.addLast(m.client, m.word, m.a);
            }
            if (written.isFirst(m.client, m.word)) {
                recall(m, pool);
            }
        }

        private void recall(Message put, Pool pool) {
            int[] ends = files[put.file].leaseEnds;
            for (int c = 0; c < ends.length; c++) {
                if (ends[c] > clock) {
                    pool.send(RECALL, c, put.file, put.word, put.client, epoch, 0);
                }
            }
        }

        private void receiveFree(Message m) {
            ServedFile freed = files[m.file];
            if (m.b == epoch && freed.isFirst(m.a, m.word)) {
                freed.leaseEnds[m.client] = clock;
            }
        }

        private int storeWhatMay(Pool pool) {
            int stored = 0;
            for (int f = 0; f < files.length; f++) {
                for (int i = 0; i < MOST_WAITING && mayStore(files[f]); i++) {
                    storeFirst(f, pool);
                    stored++;
                }
            }
            return stored;
        }

        private boolean mayStore(ServedFile some) {
            return !some.waiting.isEmpty() && graceEnd <= clock && !some.isLeasedAt(clock);
        }

        private void storeFirst(int f, Pool pool) {
            ServedFile written = files[f];
            if (written.waiting.isEmpty()) {
                return;
            }
            Write first = written.waiting.remove(0);
            written.value = first.value;
            written.version++;
            if (first.word > lastWords[first.client]) {
                lastWords[first.client] = first.word;
                lastVersions[first.client] = written.version;
            }
            pool.send(STORED, first.client, f, first.word, written.version, 0, 0);
        }
    }
}
