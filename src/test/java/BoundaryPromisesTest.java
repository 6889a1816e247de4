/**
 * The sentences of the document's promises that name a boundary case, in their order:
 * each run bears the words of its sentence, and the edge that it goes to.
 */
public final class BoundaryPromisesTest {
    private static final int MOST = Integer.MAX_VALUE;
    private static final int LEAST = Integer.MIN_VALUE;
    private static final String NO_CLIENT = "NONE when there is no such client";
    private static final String NO_CLIENT_OR_FILE = "NONE when there is no such client or file";
    private static final String NO_MESSAGE = "NONE when there is none such";

    public static void main(String[] args) {
        clients1();
        files1();
        term1();
        shorter1();
        read2();
        write3();
        retry4();
        status5();
        result6();
        version7();
        deliver8();
        lose9();
        pending10();
        message11();
        tick12();
        pass13();
        crash14();
        halt15();
        restart16();
        copy17();
        lease18();
        file19();
        server20();
        client21();
        Run.end();
    }

    private static void clients1() {
        int[][] toldAndDue = {{LEAST, 1}, {-1, 1}, {0, 1}, {1, 1}, {2, 2}, {3, 3}, {4, 4}, {5, 4}, {MOST, 4}};
        for (int[] pair : toldAndDue) {
            Run.on("C is clients, but at least 1 and at most 4", "it is " + pair[0], pair[0], 2, 10, 9)
                .due("status " + (pair[1] - 1) + " = 0; read " + (pair[1] - 1) + " 0 = 2").refusedBeyond(pair[1], "status # = -1")
                .refusedBeyond(pair[1], "read # 0 = -1");
        }
    }

    private static void files1() {
        int[][] toldAndDue = {{LEAST, 1}, {-1, 1}, {0, 1}, {1, 1}, {2, 2}, {3, 3}, {4, 4}, {5, 4}, {MOST, 4}};
        for (int[] pair : toldAndDue) {
            Run.on("F is files, but at least 1 and at most 4", "it is " + pair[0], 2, pair[0], 10, 9)
                .due("file " + (pair[1] - 1) + " 0 = 0; read 0 " + (pair[1] - 1) + " = 2").refusedBeyond(pair[1], "file # 0 = -1")
                .refusedBeyond(pair[1], "read 1 # = -1");
        }
    }

    private static void term1() {
        int[][] toldAndDue = {{LEAST, 1}, {-1, 1}, {0, 1}, {1, 1}, {2, 2}, {999, 999}, {1000, 1000}, {1001, 1000}, {MOST, 1000}};
        for (int[] pair : toldAndDue) {
            Run.on("T is term, but at least 1 and at most 1000", "it is " + pair[0], 1, 1, pair[0], 1)
                .due("read 0 0 = 2; deliver 0 = 0; lease 0 0 = " + pair[1] + "; halt = 0; restart = 1; server 3 = " + pair[1]);
        }
    }

    private static void shorter1() {
        int[][] termToldAndDue = {
            {10, LEAST, 1}, {10, -1, 1}, {10, 0, 1}, {10, 1, 1}, {10, 2, 2}, {10, 9, 9}, {10, 10, 10}, {10, 11, 10}, {10, MOST, 10},
            {1, 1, 1}, {1, 2, 1}, {1000, 1000, 1000}, {1000, 1001, 1000}, {0, 5, 1}, {LEAST, MOST, 1}, {5000, 4000, 1000}, {MOST, MOST, 1000}};
        for (int[] three : termToldAndDue) {
            Run.on("S is shorter, but at least 1 and at most T", "it is " + three[1] + " of " + three[0], 1, 1, three[0], three[1])
                .copyFor(0, 0).due("copy 0 0 0 = " + three[2]);
        }
    }

    private static void read2() {
        Run.on("1 when it is done at once", "the last time at which it can be", 1, 1, 10, 9).copyFor(0, 0)
            .due("pass 0 8 = 8; read 0 0 = 1; status 0 = 1; pending = 0");
        Run.on("2 when it waits", "the first time at which it must", 1, 1, 10, 9).copyFor(0, 0)
            .due("pass 0 9 = 9; read 0 0 = 2; status 0 = 2; pending = 1");
        String waits = "0 (and nothing is done) when it waits already";
        Run.on(waits, "for a read of the same file", 1, 2, 10, 9).due("read 0 0 = 2").refused("read 0 0 = 0").due("retry 0 = 1");
        Run.on(waits, "for a read of another file, and it has a copy", 1, 2, 10, 9).copyFor(0, 1).due("read 0 0 = 2")
            .refused("read 0 1 = 0").due("retry 0 = 2; message 1 2 = 0");
        Run.on(waits, "for a write", 1, 2, 10, 9).due("write 0 0 5 = 2").refused("read 0 0 = 0").refused("read 0 1 = 0")
            .due("retry 0 = 1; message 1 0 = 1; message 1 4 = 5");
        Run.on(waits, "it began when it began, and is spoiled still", 2, 2, 10, 9).busy().due("pass 1 4 = 4")
            .refused("read 1 1 = 0")
            .due("client 1 1 = 1; deliver 0 = 2; copy 1 1 0 = -1");
        Run.on(waits, "the lease is from its beginning", 1, 2, 10, 9).due("read 0 0 = 2; pass 0 4 = 4").refused("read 0 0 = 0")
            .due("deliver 0 = 0; deliver 0 = 2; copy 0 0 0 = 5");
        Run.on(NO_CLIENT_OR_FILE, "read: no such client", 2, 2, 10, 9).busy().refusedBeyond(2, "read # 0 = -1");
        Run.on(NO_CLIENT_OR_FILE, "read: no such file", 2, 2, 10, 9).refusedBeyond(2, "read 0 # = -1").copyFor(0, 1)
            .refusedBeyond(2, "read 0 # = -1");
        Run.on(NO_CLIENT_OR_FILE, "read: neither", 2, 2, 10, 9).refused("read 2 2 = -1").refused("read -1 -1 = -1");
        Run.on(NO_CLIENT_OR_FILE, "read: no such file, and the client waits", 2, 2, 10, 9).busy()
            .refusedBeyond(2, "read 0 # = -1");
    }

    private static void write3() {
        Run.on("2, or 0 as for read()", "it is idle, or done", 1, 1, 10, 9)
            .due("write 0 0 5 = 2; deliver 0 = 1; deliver 0 = 3; status 0 = 1; write 0 0 5 = 2; status 0 = 2");
        Run.on("2, or 0 as for read()", "it waits for a read, and has a copy", 1, 2, 10, 9).copyFor(0, 1).due("read 0 0 = 2")
            .refused("write 0 1 5 = 0").due("copy 0 1 0 = 9; retry 0 = 2; message 1 0 = 0");
        Run.on("2, or 0 as for read()", "it waits for a write", 1, 2, 10, 9).due("write 0 0 5 = 2")
            .refused("write 0 0 6 = 0").refused("write 0 1 7 = 0").due("retry 0 = 1; message 1 2 = 0; message 1 4 = 5");
        Run.on(NO_CLIENT_OR_FILE, "write: no such client", 2, 2, 10, 9).busy().refusedBeyond(2, "write # 0 5 = -1");
        Run.on(NO_CLIENT_OR_FILE, "write: no such file", 2, 2, 10, 9).refusedBeyond(2, "write 0 # 5 = -1").copyFor(0, 1)
            .refusedBeyond(2, "write 0 # 5 = -1");
        Run.on(NO_CLIENT_OR_FILE, "write: neither", 2, 2, 10, 9).refused("write 2 2 5 = -1").refused("write -1 -1 5 = -1");
        Run.on(NO_CLIENT_OR_FILE, "write: no such file, and the client waits", 2, 2, 10, 9).busy()
            .refusedBeyond(2, "write 0 # 5 = -1");
    }

    private static void retry4() {
        Run.on("the word of its operation", "the first and the second", 1, 1, 10, 9)
            .due("write 0 0 5 = 2; retry 0 = 1; deliver 0 = 1; deliver 1 = 3; lose 0 = 1; read 0 0 = 2; retry 0 = 2")
            .due("retry 0 = 2");
        String waits = "0 when it does not wait";
        Run.on(waits, "it is idle", 2, 1, 10, 9).refused("retry 0 = 0").due("read 1 0 = 2").refused("retry 0 = 0");
        Run.on(waits, "it is done", 1, 2, 10, 9).copyFor(0, 0).refused("retry 0 = 0").storedBy(0, 1, 5).refused("retry 0 = 0");
        Run.on(waits, "it is done at once", 1, 1, 10, 9).copyFor(0, 0).due("read 0 0 = 1").refused("retry 0 = 0");
        Run.on(waits, "it crashed while it waited", 1, 1, 10, 9).due("write 0 0 5 = 2; crash 0 = 0").refused("retry 0 = 0");
        Run.on(NO_CLIENT, "retry", 2, 2, 10, 9).busy().refusedBeyond(2, "retry # = -1");
    }

    private static void status5() {
        Run.on("0 idle, 1 done, 2 waiting", "each, and of the first and the last client", 2, 1, 10, 9)
            .due("status 0 = 0; read 1 0 = 2; status 1 = 2; status 0 = 0; deliver 0 = 0; deliver 0 = 2; status 1 = 1")
            .due("status 0 = 0; crash 1 = 1; status 1 = 0");
        Run.on(NO_CLIENT, "status", 2, 2, 10, 9).busy().refusedBeyond(2, "status # = -1");
    }

    private static void result6() {
        // Each has a result that is not 0 behind it, so that 0 is no chance.
        String otherwise = "The result of an operation that is done; 0 otherwise, or when there is no such client";
        Run.on(otherwise, "it is done", 1, 1, 10, 9).storedBy(0, 0, 5).due("result 0 = 1").copyFor(0, 0).due("result 0 = 5");
        Run.on(otherwise, "it is idle", 2, 1, 10, 9).due("result 1 = 0").storedBy(0, 0, 5).copyFor(0, 0)
            .due("crash 0 = 1; result 0 = 0");
        Run.on(otherwise, "it waits for a read", 1, 2, 10, 9).storedBy(0, 0, 5).due("read 0 1 = 2; result 0 = 0");
        Run.on(otherwise, "it waits for a write", 1, 2, 10, 9).storedBy(0, 0, 5).copyFor(0, 0)
            .due("write 0 1 6 = 2; result 0 = 0");
        Run.on(otherwise, "there is no such client", 2, 1, 10, 9).storedBy(0, 0, 5).storedBy(1, 0, 6)
            .refusedBeyond(2, "result # = 0");
    }

    private static void version7() {
        String done = "NONE when it is not done, or there is no such client";
        Run.on(done, "it is done", 1, 1, 10, 9).copyFor(0, 0).due("version 0 = 0; tick 10 = 0").storedBy(0, 0, 5)
            .due("version 0 = 1");
        Run.on(done, "it is idle", 2, 1, 10, 9).refused("version 1 = -1").storedBy(0, 0, 5).due("crash 0 = 0")
            .refused("version 0 = -1");
        Run.on(done, "it waits", 1, 2, 10, 9).storedBy(0, 0, 5).due("read 0 1 = 2").refused("version 0 = -1");
        Run.on(done, "there is no such client", 2, 1, 10, 9).storedBy(0, 0, 5).storedBy(1, 0, 6)
            .refusedBeyond(2, "version # = -1");
    }

    private static void deliver8() {
        Run.on("those behind it are one less each", "the middle, the first and the last of three", 3, 1, 10, 9)
            .due("write 0 0 5 = 2; write 1 0 6 = 2; write 2 0 7 = 2; halt = 0; deliver 1 = 9; message 0 1 = 0; message 1 1 = 2")
            .due("message 2 1 = -1; pending = 2")
            .due("deliver 0 = 9; message 0 1 = 2; message 1 1 = -1; deliver 0 = 9; pending = 0");
        Run.on("those behind it are one less each", "the first of 64", 2, 1, 10, 9).due("read 1 0 = 2; read 0 0 = 2")
            .times(62, "retry 0 = 1")
            .due("deliver 0 = 0; pending = 64; message 0 1 = 0; message 62 1 = 0; message 63 1 = 1; message 63 0 = 2");
        Run.on("9 when the server is down to which it came", "down, and up again", 1, 1, 10, 9)
            .due("read 0 0 = 2; retry 0 = 1; halt = 0; deliver 0 = 9; pending = 1; restart = 1; deliver 0 = 0; pending = 1")
            .due("message 0 0 = 2");
        Run.on("9 when the server is down to which it came", "not when it came to a client", 1, 1, 10, 9)
            .due("read 0 0 = 2; deliver 0 = 0; halt = 0; deliver 0 = 2; pending = 0");
        Run.on(NO_MESSAGE, "deliver: the pool is empty", 1, 1, 10, 9).refusedBeyond(0, "deliver # = -1");
        Run.on(NO_MESSAGE, "deliver: there are some", 2, 2, 10, 9).busy().refusedBeyond(2, "deliver # = -1")
            .refused("deliver 63 = -1").refused("deliver 64 = -1");
        Run.on(NO_MESSAGE, "deliver: the pool is full", 1, 1, 10, 9).due("read 0 0 = 2").times(63, "retry 0 = 1")
            .due("deliver 64 = -1; deliver 65 = -1; deliver -1 = -1; pending = 64; lease 0 0 = 0; deliver 63 = 0");
        Run.on(NO_MESSAGE, "deliver: none is left, and the server is down", 1, 1, 10, 9)
            .due("read 0 0 = 2; halt = 0; deliver 0 = 9").refused("deliver 0 = -1");
    }

    private static void lose9() {
        String such = "A message is lost: whether there was such a one";
        Run.on(such, "the pool is empty", 1, 1, 10, 9).refusedBeyond(0, "lose # = 0");
        Run.on(such, "there are some", 2, 2, 10, 9).busy().refusedBeyond(2, "lose # = 0").refused("lose 63 = 0")
            .refused("lose 64 = 0")
            .due("lose 1 = 1; pending = 1; message 0 0 = 2; lose 1 = 0; lose 0 = 1; pending = 0; lose 0 = 0");
        Run.on(such, "the pool is full", 1, 1, 10, 9).due("read 0 0 = 2").times(63, "retry 0 = 1")
            .due("lose 64 = 0; lose 65 = 0; lose -1 = 0; pending = 64; lose 63 = 1; pending = 63; lose 63 = 0; lose 0 = 1")
            .due("pending = 62");
        Run.on(such, "the middle, the first and the last of three", 3, 1, 10, 9)
            .due("write 0 0 5 = 2; write 1 0 6 = 2; write 2 0 7 = 2; lose 1 = 1; message 0 1 = 0; message 1 1 = 2")
            .due("message 2 1 = -1; pending = 2")
            .due("lose 0 = 1; message 0 1 = 2; message 1 1 = -1; pending = 1; lose 0 = 1; message 0 1 = -1; pending = 0");
        Run.on(such, "it does not come", 2, 1, 10, 9).due("read 0 0 = 2; write 1 0 5 = 2; lose 0 = 1; lose 0 = 1; lease 0 0 = 0")
            .due("file 0 1 = 0; file 0 2 = 0; status 0 = 2; status 1 = 2");
        Run.on(such, "while the server is down", 1, 1, 10, 9).due("read 0 0 = 2; halt = 0; lose 0 = 1; lose 0 = 0; pending = 0");
    }

    private static void pending10() {
        Run.on("How many messages are in the pool", "none, one, 63, 64, and none again", 1, 1, 10, 9)
            .due("pending = 0; read 0 0 = 2; pending = 1").times(62, "retry 0 = 1")
            .due("pending = 63; retry 0 = 1; pending = 64; retry 0 = 1; pending = 64").times(64, "lose 0 = 1")
            .due("pending = 0; lose 0 = 0; pending = 0");
    }

    private static void message11() {
        String such = "NONE when there is none such, or for another what";
        Run.on(such, "the pool is empty", 1, 1, 10, 9).refusedBeyond(0, "message # 0 = -1");
        Run.on(such, "there are some", 2, 2, 10, 9).busy().refusedBeyond(2, "message # 0 = -1")
            .refusedBeyond(2, "message # 6 = -1").refused("message 64 0 = -1");
        Run.on(such, "one is gone", 2, 2, 10, 9).busy().due("lose 0 = 1; message 0 0 = 5").refused("message 1 0 = -1");
        Run.on(such, "the pool is full", 1, 1, 10, 9).due("read 0 0 = 2").times(63, "retry 0 = 1")
            .due("message 63 0 = 0; message 63 3 = 1; message 64 0 = -1; message 65 0 = -1; message -1 0 = -1");
        Run.on(such, "the first and the last what, and others", 2, 2, 10, 9).busy().due("message 0 0 = 2; message 0 6 = 1")
            .refusedBeyond(7, "message 0 # = -1").refusedBeyond(7, "message 1 # = -1");
        Run.on(such, "neither", 1, 1, 10, 9).refusedBeyond(7, "message 0 # = -1");
    }

    private static void tick12() {
        Run.on("how many writes were stored", "none, one, two", 3, 1, 10, 9)
            .due("tick 0 = 0; halt = 0; restart = 1; write 0 0 5 = 2; deliver 0 = 1; tick 10 = 1; halt = 0; restart = 2")
            .due("write 1 0 6 = 2; deliver 1 = 1; write 2 0 7 = 2; deliver 1 = 1; tick 10 = 2; tick 10 = 0");
        Run.on("While it is down, its clock goes on", "0 and the most at once", 1, 1, 10, 9)
            .due("halt = 0; tick 0 = 0; server 0 = 0; tick 1000 = 0; server 0 = 1000; restart = 1; server 0 = 1000");
        String step = "NONE when n is not 0 .. 1000";
        Run.on(step, "tick: the least", 1, 1, 10, 9).due("tick 0 = 0; server 0 = 0");
        Run.on(step, "tick: the most", 1, 1, 10, 9).due("tick 1000 = 0; server 0 = 1000");
        Run.on(step, "tick: less and more", 2, 2, 10, 9).busy().refusedBeyond(1001, "tick # = -1");
        Run.on(step, "tick: less and more while the server is down", 2, 2, 10, 9).busy().due("halt = 1")
            .refusedBeyond(1001, "tick # = -1");
    }

    private static void pass13() {
        String step = "NONE when there is no such client, or n is not 0 .. 1000";
        Run.on(step, "the least", 2, 1, 10, 9).due("pass 1 0 = 0; client 1 2 = 0; pass 1 3 = 3; pass 1 0 = 3");
        Run.on(step, "the most", 2, 1, 10, 9).due("pass 1 1000 = 1000; client 1 2 = 1000; pass 1 1000 = 2000; client 0 2 = 0");
        Run.on(step, "less and more", 2, 2, 10, 9).busy().refusedBeyond(1001, "pass 0 # = -1")
            .refusedBeyond(1001, "pass 1 # = -1");
        Run.on(step, "no such client", 2, 2, 10, 9).busy().refusedBeyond(2, "pass # 1 = -1").refusedBeyond(2, "pass # 0 = -1");
        Run.on(step, "neither", 2, 2, 10, 9).busy().refusedBeyond(1001, "pass 2 # = -1");
    }

    private static void crash14() {
        String copies = "How many copies it had (also those whose leases were over)";
        Run.on(copies, "none", 2, 2, 10, 9).copyFor(1, 0).due("crash 0 = 0");
        Run.on(copies, "as many as there can be", 1, 4, 10, 9).copyFor(0, 0).copyFor(0, 1).copyFor(0, 2).copyFor(0, 3)
            .due("crash 0 = 4; copy 0 0 0 = -1; copy 0 3 0 = -1; crash 0 = 0");
        Run.on(copies, "one whose lease is just over, one whose lease is not", 1, 2, 10, 9).copyFor(0, 0).due("pass 0 1 = 1")
            .copyFor(0, 1)
            .due("pass 0 8 = 9; copy 0 0 0 = 0; copy 0 1 0 = 1; crash 0 = 2; copy 0 0 1 = -1; copy 0 1 1 = -1");
        Run.on(copies, "not one that it gave up, nor one that it wrote", 2, 3, 10, 9).copyFor(0, 0).copyFor(0, 1).copyFor(0, 2)
            .due("write 1 0 5 = 2; deliver 0 = 1; deliver 0 = 4; write 0 1 6 = 2; crash 0 = 1");
        String loses = "A client loses its copies and its operation; it is idle";
        Run.on(loses, "it is idle already", 2, 1, 10, 9).due("crash 0 = 0; status 0 = 0; client 0 0 = 0; crash 0 = 0");
        Run.on(loses, "it waits: what comes then does nothing", 1, 1, 10, 9)
            .due("read 0 0 = 2; deliver 0 = 0; crash 0 = 0; status 0 = 0; deliver 0 = 2; status 0 = 0; copy 0 0 0 = -1")
            .due("version 0 = -1");
        Run.on(loses, "it is done", 1, 1, 10, 9).storedBy(0, 0, 5)
            .due("crash 0 = 0; status 0 = 0; result 0 = 0; version 0 = -1; client 0 0 = 1");
        Run.on(loses, "its clock and its lease at the server are as they were, and so is another client", 2, 1, 10, 9)
            .copyFor(0, 0).copyFor(1, 0)
            .due("pass 0 4 = 4; crash 0 = 1; client 0 2 = 4; lease 0 0 = 10; copy 1 0 0 = 9; status 1 = 1");
        Run.on(NO_CLIENT, "crash", 2, 2, 10, 9).busy().refusedBeyond(2, "crash # = -1");
    }

    private static void halt15() {
        Run.on("how many writes waited", "none, and three for two files", 3, 4, 10, 9)
            .due("halt = 0; restart = 1; write 0 0 5 = 2; deliver 0 = 1; write 1 3 6 = 2; deliver 0 = 1")
            .due("write 2 3 7 = 2; deliver 0 = 1; halt = 3; restart = 2; halt = 0");
        Run.on("how many writes waited", "one that waits at its client alone does not count", 1, 1, 10, 9)
            .due("write 0 0 5 = 2; halt = 0; status 0 = 2");
        Run.on("NONE when it is down", "it was up, and is down", 2, 2, 10, 9).busy().due("halt = 1; server 1 = 0")
            .refused("halt = -1").refused("halt = -1").due("restart = 2; halt = 0");
    }

    private static void restart16() {
        Run.on("The server comes up: its epoch then", "the first and the second time", 1, 1, 10, 9)
            .due("halt = 0; restart = 1; server 2 = 1; halt = 0; restart = 2; server 2 = 2");
        Run.on("NONE when it is up", "at first", 1, 1, 10, 9).refused("restart = -1")
            .due("server 2 = 0; server 3 = 0; halt = 0; restart = 1");
        Run.on("NONE when it is up", "it came up before", 2, 2, 10, 9).busy().refused("restart = -1")
            .due("server 2 = 1; server 3 = 6; halt = 1; restart = 2");
    }

    private static void copy17() {
        String over = "for how long its lease is not over by the client's clock (what = 0; 0 when it is over)";
        Run.on(over, "one before its end, at its end, and behind", 1, 1, 10, 9).copyFor(0, 0)
            .due("copy 0 0 0 = 9; pass 0 8 = 8; copy 0 0 0 = 1; pass 0 1 = 9; copy 0 0 0 = 0; pass 0 1 = 10; copy 0 0 0 = 0")
            .due("pass 0 1000 = 1010; copy 0 0 0 = 0");
        Run.on(over, "not by the server's clock, nor by another client's", 2, 1, 10, 9).copyFor(0, 0)
            .due("tick 8 = 0; pass 1 7 = 7; copy 0 0 0 = 9");
        Run.on("its value (1), its version (2)", "its lease is over", 1, 1, 10, 9).storedBy(0, 0, 5).copyFor(0, 0)
            .due("pass 0 9 = 9; copy 0 0 1 = 5; copy 0 0 2 = 1");
        String none = "NONE when it has none, there is no such client or file, or for another what";
        Run.on(none, "it has none, another has, and one of another file", 2, 2, 10, 9).copyFor(0, 0)
            .refused("copy 1 0 0 = -1; copy 1 0 1 = -1; copy 1 0 2 = -1; copy 0 1 0 = -1; copy 0 1 1 = -1; copy 0 1 2 = -1");
        Run.on(none, "it has none any more", 1, 1, 10, 9).storedBy(0, 0, 5).copyFor(0, 0).due("write 0 0 6 = 2")
            .refused("copy 0 0 0 = -1; copy 0 0 1 = -1; copy 0 0 2 = -1");
        Run.on(none, "no such client", 2, 2, 10, 9).copyFor(0, 0).copyFor(1, 0).refusedBeyond(2, "copy # 0 0 = -1")
            .refusedBeyond(2, "copy # 0 1 = -1");
        Run.on(none, "no such file", 2, 2, 10, 9).copyFor(0, 0).copyFor(0, 1).refusedBeyond(2, "copy 0 # 0 = -1")
            .refusedBeyond(2, "copy 0 # 1 = -1");
        Run.on(none, "another what", 2, 2, 10, 9).copyFor(0, 0).due("copy 0 0 2 = 0").refusedBeyond(3, "copy 0 0 # = -1");
        Run.on(none, "another what, and it has none", 2, 2, 10, 9).refusedBeyond(3, "copy 0 0 # = -1");
    }

    private static void lease18() {
        String over = "For how long a client's lease of a file is not over by the server's clock, 0 when it is";
        Run.on(over, "there never was one", 2, 2, 10, 9).due("lease 1 1 = 0; tick 5 = 0; lease 1 1 = 0");
        Run.on(over, "one before its end, at its end, and behind", 2, 2, 10, 9).copyFor(1, 1)
            .due("lease 1 1 = 10; tick 9 = 0; lease 1 1 = 1; tick 1 = 0; lease 1 1 = 0; tick 1 = 0; lease 1 1 = 0")
            .due("tick 1000 = 0; lease 1 1 = 0");
        Run.on(over, "not by the client's clock, nor by its copy", 2, 2, 10, 9).copyFor(1, 1)
            .due("pass 1 1000 = 1000; lease 1 1 = 10; crash 1 = 1; lease 1 1 = 10");
        Run.on(over, "while the server is down", 2, 2, 10, 9).copyFor(1, 1)
            .due("halt = 0; lease 1 1 = 0; tick 3 = 0; lease 1 1 = 0");
        Run.on(NO_CLIENT_OR_FILE, "lease: no such client", 2, 2, 10, 9).copyFor(0, 0).copyFor(1, 1)
            .refusedBeyond(2, "lease # 0 = -1").refusedBeyond(2, "lease # 1 = -1");
        Run.on(NO_CLIENT_OR_FILE, "lease: no such file", 2, 2, 10, 9).copyFor(0, 0).copyFor(1, 1)
            .refusedBeyond(2, "lease 0 # = -1").refusedBeyond(2, "lease 1 # = -1");
        Run.on(NO_CLIENT_OR_FILE, "lease: neither", 2, 2, 10, 9).refused("lease 2 2 = -1").refused("lease -1 -1 = -1");
    }

    private static void file19() {
        Run.on("how many writes wait for it (2)", "none, one, two, and none again", 3, 2, 10, 9)
            .due("halt = 0; restart = 1; file 1 2 = 0; write 0 1 5 = 2; file 1 2 = 0; deliver 0 = 1")
            .due("file 1 2 = 1; write 1 1 6 = 2; deliver 0 = 1; file 1 2 = 2; file 0 2 = 0; tick 10 = 2; file 1 2 = 0");
        Run.on("and the client of the first one (3, NONE without one)", "none, one, two, and none again", 3, 2, 10, 9)
            .due("file 1 3 = -1; halt = 0; restart = 1; write 2 1 5 = 2; file 1 3 = -1; deliver 0 = 1; file 1 3 = 2")
            .due("write 0 1 6 = 2; deliver 0 = 1; file 1 3 = 2")
            .due("file 0 3 = -1; tick 10 = 2; file 1 3 = -1");
        Run.on("and the client of the first one (3, NONE without one)", "it is client 0", 3, 2, 10, 9)
            .due("halt = 0; restart = 1; write 0 0 5 = 2; deliver 0 = 1; file 0 3 = 0; file 1 3 = -1");
        String none = "NONE when there is no such file, or for another what";
        Run.on(none, "no such file", 2, 2, 10, 9).busy().refusedBeyond(2, "file # 0 = -1").refusedBeyond(2, "file # 2 = -1");
        Run.on(none, "another what", 2, 2, 10, 9).busy().due("file 1 0 = 0; file 1 3 = 0").refusedBeyond(4, "file 1 # = -1")
            .refusedBeyond(4, "file 0 # = -1");
        Run.on(none, "neither", 2, 2, 10, 9).busy().refusedBeyond(4, "file 2 # = -1");
    }

    private static void server20() {
        Run.on("1 when it is up, otherwise 0 (1)", "up, down, up", 1, 1, 10, 9)
            .due("server 1 = 1; halt = 0; server 1 = 0; tick 5 = 0; server 1 = 0; restart = 1; server 1 = 1");
        String grace = "for how long its grace is not over (3)";
        Run.on(grace, "it never was", 1, 1, 10, 9).due("server 3 = 0; tick 5 = 0; server 3 = 0; halt = 0; server 3 = 0");
        Run.on(grace, "one before its end, at its end, and behind", 1, 1, 10, 9)
            .due("halt = 0; restart = 1; server 3 = 10; tick 9 = 0; server 3 = 1; tick 1 = 0; server 3 = 0; tick 1000 = 0")
            .due("server 3 = 0");
        Run.on("NONE for another what", "the first, the last, and others", 2, 2, 10, 9).busy().due("server 0 = 4; server 3 = 6")
            .refusedBeyond(4, "server # = -1");
    }

    private static void client21() {
        Run.on("the number of its latest operation (0: none yet)", "none, one, and after a crash", 2, 1, 10, 9)
            .due("client 0 0 = 0; write 0 0 5 = 2; client 0 0 = 1; crash 0 = 0; client 0 0 = 1; client 1 0 = 0");
        Run.on("the number of its latest operation (0: none yet)", "one that was refused has none", 2, 1, 10, 9)
            .due("read 0 0 = 2; read 0 0 = 0; write 0 0 5 = 0; read 0 1 = -1; client 0 0 = 1; client 1 0 = 0");
        String spoiled = "1 when that is a read that waits and is spoiled, otherwise 0 (1)";
        Run.on(spoiled, "it waits, and is not spoiled", 1, 1, 10, 9).due("client 0 1 = 0; read 0 0 = 2; client 0 1 = 0");
        Run.on(spoiled, "it waits, is spoiled, and is tried again", 2, 2, 10, 9).busy()
            .due("client 1 1 = 1; retry 1 = 1; client 1 1 = 1; client 0 1 = 0");
        Run.on(spoiled, "it is done", 2, 2, 10, 9).busy().due("deliver 0 = 2; status 1 = 1; client 1 1 = 0");
        Run.on(spoiled, "it is lost", 2, 2, 10, 9).busy().due("crash 1 = 0; client 1 1 = 0");
        Run.on(spoiled, "it is done, and a write or the next read waits", 2, 2, 10, 9).busy()
            .due("deliver 0 = 2; read 1 0 = 2; client 1 1 = 0; crash 1 = 0; write 1 1 5 = 2; client 1 1 = 0");
        String another = "for another what its clock";
        Run clock = Run.on(another, "2, and numbers far from it", 2, 1, 10, 9)
            .due("read 0 0 = 2; pass 0 7 = 7; tick 3 = 0; pass 1 5 = 5");
        for (int what : new int[] {2, 3, -1, 1000, LEAST, MOST}) {
            clock.due("client 0 " + what + " = 7; client 1 " + what + " = 5");
        }
        Run.on(NO_CLIENT, "client", 2, 2, 10, 9).busy().refusedBeyond(2, "client # 0 = -1").refusedBeyond(2, "client # 1 = -1")
            .refusedBeyond(2, "client # 2 = -1");
    }
}
