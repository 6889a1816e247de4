/**
 * The sentences about calls, messages and clients in the document's first sections that name a boundary case,
 * in their order: each run bears the words of its sentence, and the edge that it goes to.
 */
public final class BoundaryClientTermsTest {
    private static final String MOST = String.valueOf(Integer.MAX_VALUE);
    private static final String LEAST = String.valueOf(Integer.MIN_VALUE);

    public static void main(String[] args) {
        calls();
        clientsAndFiles();
        pool();
        operations();
        toRead();
        toWrite();
        toRetry();
        given();
        copyOfGiven();
        stored();
        recall();
        Run.end();
    }

    private static void calls() {
        String sentence = "An object is used for at most 512 calls after it has been made";
        Run.on(sentence, "the last one is a read like those before", 1, 1, 1000, 1000).copyFor(0, 0)
            .times(506, "read 0 0 = 1").due("read 0 0 = 1");
        Run.on(sentence, "as many operations as there can be", 1, 1, 1000, 1000).copyFor(0, 0)
            .times(506, "read 0 0 = 1").due("client 0 0 = 507");
        Run.on(sentence, "the server's clock goes as far as it can", 1, 1, 10, 9)
            .times(511, "tick 1000 = 0").due("server 0 = 511000");
        Run pass = Run.on(sentence, "a client's clock goes as far as it can", 1, 1, 10, 9);
        for (int i = 1; i <= 512; i++) {
            pass.due("pass 0 1000 = " + i * 1000);
        }
        Run restart = Run.on(sentence, "as many epochs as there can be", 1, 1, 10, 9);
        for (int i = 1; i <= 256; i++) {
            restart.due("halt = 0; restart = " + i);
        }
        Run.on(sentence, "a lease after the longest time", 1, 1, 1000, 1000).times(500, "tick 1000 = 0")
            .due("read 0 0 = 2; deliver 0 = 0; lease 0 0 = 1000; tick 999 = 0; lease 0 0 = 1; tick 1 = 0; lease 0 0 = 0");
        Run.on(sentence, "nearly as many writes wait as can", 2, 1, 1000, 1000)
            .due("read 1 0 = 2; deliver 0 = 0; lose 0 = 1").due("write 0 0 7 = 2; deliver 0 = 1; lose 0 = 1; crash 0 = 0")
            .times(167, "write 0 0 8 = 2; deliver 0 = 1; crash 0 = 0")
            .due("file 0 2 = 168; pending = 0; tick 1000 = 168; file 0 1 = 168");
    }

    private static void clientsAndFiles() {
        Run.on("There are C CLIENTS, 0 .. C - 1", "the first, the last, and one on each side", 3, 1, 10, 9)
            .due("status 0 = 0; status 2 = 0").refused("status -1 = -1; status 3 = -1");
        Run.on("and F FILES, 0 .. F - 1", "the first, the last, and one on each side", 1, 3, 10, 9)
            .due("file 0 0 = 0; file 2 0 = 0").refused("file -1 0 = -1; file 3 0 = -1");
        Run.on("A file has a VALUE and a VERSION, both 0 at first", "the first and the last file", 1, 4, 10, 9)
            .due("file 0 0 = 0; file 0 1 = 0; file 3 0 = 0; file 3 1 = 0");
        Run.on("they are never lost", "the server goes down, and the client crashes", 1, 2, 10, 9)
            .storedBy(0, 1, 6).due("crash 0 = 0; halt = 0; file 1 0 = 6; file 1 1 = 1; restart = 1; file 1 0 = 6; file 1 1 = 1");
        Run.on("nor is what is told below of the last writes", "the same PUT comes after a restart", 1, 1, 10, 9)
            .due("write 0 0 6 = 2; retry 0 = 1; deliver 0 = 1; deliver 1 = 3; halt = 0; restart = 1; tick 10 = 0")
            .due("deliver 0 = 1; file 0 1 = 1; file 0 2 = 0; message 0 0 = 3; message 0 3 = 1; message 0 4 = 1");
        Run.on("nor is what is told below of the last writes", "an older PUT comes after a restart", 1, 1, 10, 9)
            .due("write 0 0 6 = 2; crash 0 = 0; write 0 0 7 = 2; deliver 1 = 1; deliver 1 = 3; halt = 0; restart = 1")
            .due("tick 10 = 0")
            .due("deliver 0 = 1; pending = 0; file 0 0 = 7; file 0 1 = 1; file 0 2 = 0");
        Run.on("The server and each client have a CLOCK, 0 at first", "the server, the first and the last client", 4, 1, 10, 9)
            .due("server 0 = 0; client 0 2 = 0; client 3 2 = 0");
    }

    private static void pool() {
        Run.on("MESSAGES lie in a POOL, in the order in which they were sent", "a new one is the last", 3, 1, 10, 9)
            .due("read 2 0 = 2; read 0 0 = 2; deliver 0 = 0; read 1 0 = 2")
            .due("message 0 1 = 0; message 1 1 = 2; message 2 1 = 1; message 3 1 = -1");
        String full = "at most 64; one that is sent when there are 64 is lost";
        Run.on(full, "the 64th ASK is there, the 65th is lost", 2, 1, 10, 9).due("read 0 0 = 2").times(62, "retry 0 = 1")
            .due("pending = 63; retry 0 = 1; pending = 64; read 1 0 = 2; pending = 64; message 0 1 = 0; message 63 1 = 0")
            .due("status 1 = 2");
        Run.on(full, "the 65th is a PUT", 2, 1, 10, 9).due("read 0 0 = 2").times(63, "retry 0 = 1")
            .due("write 1 0 5 = 2; pending = 64; message 63 0 = 0; status 1 = 2; client 1 0 = 1; retry 1 = 1; pending = 64");
        Run.on(full, "when one is gone there is room for one", 2, 1, 10, 9).due("read 0 0 = 2").times(63, "retry 0 = 1")
            .due("write 1 0 5 = 2; lose 0 = 1; pending = 63; retry 1 = 1; pending = 64; message 63 0 = 1; retry 1 = 1")
            .due("pending = 64");
        Run.on(full, "one that comes makes room for GIVEN", 1, 1, 10, 9).due("read 0 0 = 2").times(63, "retry 0 = 1")
            .due("deliver 0 = 0; pending = 64; message 63 0 = 2; deliver 63 = 2; pending = 63; status 0 = 1");
        Run.on(full, "of two RECALLs one is there", 4, 1, 10, 9).copyFor(0, 0).copyFor(2, 0)
            .due("write 3 0 5 = 2; read 1 0 = 2").times(62, "retry 1 = 1")
            .due("deliver 0 = 1; pending = 64; message 63 0 = 4; message 63 1 = 0; lease 2 0 = 10; file 0 2 = 1");
        Run.on(full, "STORED is lost, the write is stored", 3, 1, 10, 9).copyFor(0, 0)
            .due("write 2 0 5 = 2; deliver 0 = 1; lose 0 = 1; read 1 0 = 2").times(63, "retry 1 = 1")
            .due("tick 10 = 1; pending = 64; message 63 0 = 0; file 0 0 = 5; file 0 1 = 1; file 0 2 = 0; status 2 = 2")
            .due("lose 63 = 1; retry 2 = 1; deliver 63 = 1; message 63 0 = 3; deliver 63 = 3; status 2 = 1; version 2 = 1");
        Run.on("Any of them may come next", "the last, the middle, the first", 3, 1, 10, 9)
            .due("read 0 0 = 2; read 1 0 = 2; read 2 0 = 2; deliver 2 = 0; lease 2 0 = 10; lease 1 0 = 0; lease 0 0 = 0")
            .due("deliver 1 = 0; lease 1 0 = 10; lease 0 0 = 0; deliver 0 = 0; lease 0 0 = 10");
        // Each kind follows a GIVEN whose b and c are not 0, or one that has its a.
        String untold = "three more numbers a, b, c, which are 0 unless something else is told";
        Run.on(untold, "of ASK all, of PUT b and c", 1, 2, 10, 9).storedBy(0, 0, 6).copyFor(0, 0)
            .due("read 0 1 = 2; message 0 4 = 0; message 0 5 = 0; message 0 6 = 0; crash 0 = 1; lose 0 = 1")
            .copyFor(0, 0).due("write 0 0 7 = 2; message 0 4 = 7; message 0 5 = 0; message 0 6 = 0");
        Run.on(untold, "of STORED b and c", 1, 2, 10, 9).storedBy(0, 0, 6).copyFor(0, 0)
            .due("write 0 1 7 = 2; deliver 0 = 1; message 0 0 = 3; message 0 4 = 1; message 0 5 = 0; message 0 6 = 0");
        Run.on(untold, "of STORED once more b and c", 1, 2, 10, 9).storedBy(0, 0, 6).copyFor(0, 0)
            .due("write 0 1 7 = 2; retry 0 = 3; deliver 0 = 1; lose 1 = 1; deliver 0 = 1")
            .due("message 0 0 = 3; message 0 4 = 1; message 0 5 = 0; message 0 6 = 0");
        Run.on(untold, "of RECALL and of FREE c", 2, 1, 10, 9).due("halt = 0; restart = 1").copyFor(1, 0)
            .due("write 0 0 7 = 2; deliver 0 = 1; message 0 0 = 4; message 0 4 = 0; message 0 5 = 1; message 0 6 = 0")
            .due("deliver 0 = 4; message 0 0 = 5; message 0 4 = 0; message 0 5 = 1; message 0 6 = 0");
    }

    private static void operations() {
        Run.on("A client has one at a time", "one that waits is not given up for another", 1, 2, 10, 9)
            .due("read 0 0 = 2; write 0 1 5 = 0; read 0 1 = 0; deliver 0 = 0; deliver 0 = 2; status 0 = 1; copy 0 0 1 = 0")
            .due("pending = 0");
        Run.on("they are numbered 1, 2, .. for each client", "the first, the second, and another client's first", 2, 1, 10, 9)
            .due("client 0 0 = 0; read 0 0 = 2; client 0 0 = 1; message 0 3 = 1; deliver 0 = 0; deliver 0 = 2; write 0 0 5 = 2")
            .due("client 0 0 = 2; message 0 3 = 2; client 1 0 = 0; read 1 0 = 2; client 1 0 = 1; message 1 3 = 1");
        Run.on("they are numbered 1, 2, .. for each client", "one that is done at once has a number too", 1, 1, 10, 9)
            .copyFor(0, 0).due("read 0 0 = 1; client 0 0 = 2; read 0 0 = 1; client 0 0 = 3");
        Run.on("this number is never lost", "the client crashes", 1, 1, 10, 9)
            .due("write 0 0 5 = 2; crash 0 = 0; client 0 0 = 1; read 0 0 = 2; client 0 0 = 2; message 1 3 = 2");
        Run.on("It is IDLE when it has none, WAITING, or DONE", "at first, and after a crash of one that is done", 1, 1, 10, 9)
            .due("status 0 = 0").copyFor(0, 0).due("status 0 = 1; crash 0 = 1; status 0 = 0");
    }

    private static void toRead() {
        String over = "when the client has a copy of the file whose lease is over later than its clock shows, it is done at once";
        Run.on(over, "one before its end", 1, 1, 10, 6).copyFor(0, 0)
            .due("pass 0 5 = 5; read 0 0 = 1; pending = 0; status 0 = 1");
        Run.on(over, "at its end", 1, 1, 10, 6).copyFor(0, 0).due("pass 0 6 = 6; read 0 0 = 2; pending = 1; status 0 = 2");
        Run.on(over, "behind its end", 1, 1, 10, 6).copyFor(0, 0).due("pass 0 7 = 7; read 0 0 = 2; pending = 1; status 0 = 2");
        Run.on(over, "the shortest lease", 1, 1, 1, 1).copyFor(0, 0)
            .due("read 0 0 = 1; pass 0 0 = 0; read 0 0 = 1; pass 0 1 = 1; read 0 0 = 2");
        Run.on(over, "the longest lease", 1, 1, 1000, 1000).copyFor(0, 0)
            .due("pass 0 999 = 999; read 0 0 = 1; pass 0 1 = 1000; read 0 0 = 2");
        Run.on(over, "the server's clock does not count", 1, 1, 10, 6).copyFor(0, 0)
            .due("tick 1000 = 0; lease 0 0 = 0; read 0 0 = 1");
        Run.on(over, "no copy, a copy of another file, another client's copy", 2, 2, 10, 6).copyFor(0, 0)
            .due("read 1 0 = 2; read 0 1 = 2; pending = 2");
        Run.on("with the copy's value and version", "the server has a newer one", 2, 1, 10, 10)
            .storedBy(1, 0, 6).copyFor(0, 0).due("halt = 0; restart = 1; tick 10 = 0").storedBy(1, 0, 7)
            .due("read 0 0 = 1; result 0 = 6; version 0 = 1; file 0 0 = 7; file 0 1 = 2");
        Run.on("Otherwise it sends 0 ASK (a is 0), and waits", "behind a write whose value is not 0", 1, 1, 10, 6)
            .storedBy(0, 0, 5)
            .due("read 0 0 = 2; message 0 0 = 0; message 0 4 = 0; status 0 = 2; result 0 = 0; version 0 = -1");
    }

    private static void toWrite() {
        String gone = "its own copy of the file is gone";
        Run.on(gone, "one whose lease is not over", 1, 1, 10, 9).copyFor(0, 0)
            .due("write 0 0 5 = 2; copy 0 0 0 = -1; copy 0 0 1 = -1; crash 0 = 0");
        Run.on(gone, "one whose lease is over", 1, 1, 10, 9).copyFor(0, 0)
            .due("pass 0 9 = 9; write 0 0 5 = 2; copy 0 0 1 = -1; crash 0 = 0");
        Run.on(gone, "it has none", 1, 1, 10, 9).due("write 0 0 5 = 2; copy 0 0 0 = -1; status 0 = 2; crash 0 = 0");
        Run.on(gone, "not that of another file, nor another client's", 2, 2, 10, 9).copyFor(0, 0).copyFor(0, 1).copyFor(1, 0)
            .due("write 0 0 5 = 2; copy 0 0 0 = -1; copy 0 1 0 = 9; copy 1 0 0 = 9");
        Run.on(gone, "also when the PUT is lost at once", 2, 1, 10, 9).copyFor(0, 0).due("read 1 0 = 2").times(63, "retry 1 = 1")
            .due("write 0 0 5 = 2; pending = 64; message 63 0 = 0; copy 0 0 0 = -1");
        Run put = Run.on("it sends 1 PUT (a: the value), and waits", "the least, the greatest, 0, and NONE's number", 4, 1, 10, 9);
        put.due("write 0 0 " + LEAST + " = 2; write 1 0 " + MOST + " = 2; write 2 0 0 = 2; write 3 0 -1 = 2; status 0 = 2")
            .due("message 0 4 = " + LEAST + "; message 1 4 = " + MOST + "; message 2 4 = 0; message 3 4 = -1")
            .due("deliver 0 = 1; file 0 0 = " + LEAST + "; deliver 0 = 1; file 0 0 = " + MOST)
            .due("deliver 0 = 1; file 0 0 = 0; deliver 0 = 1; file 0 0 = -1; file 0 1 = 4");
    }

    private static void toRetry() {
        Run.on("To RETRY, it sends the same again", "of a read: no new number, the same word", 2, 2, 10, 9).copyFor(1, 0)
            .due("read 1 1 = 2; retry 1 = 2; client 1 0 = 2; pending = 2; message 1 0 = 0; message 1 1 = 1; message 1 2 = 1")
            .due("message 1 3 = 2");
        Run.on("To RETRY, it sends the same again", "of a write: the same value", 2, 2, 10, 9).copyFor(1, 0)
            .due("write 1 1 -7 = 2; retry 1 = 2; client 1 0 = 2; pending = 2; message 1 0 = 1; message 1 1 = 1; message 1 2 = 1")
            .due("message 1 3 = 2; message 1 4 = -7");
    }

    private static void given() {
        String word = "if it waits for a read with this word";
        Run.on(word, "this one", 1, 1, 10, 9)
            .due("read 0 0 = 2; deliver 0 = 0; deliver 0 = 2; status 0 = 1; copy 0 0 0 = 9");
        Run.on(word, "it waits for the next one", 1, 1, 10, 9)
            .due("read 0 0 = 2; deliver 0 = 0; crash 0 = 0; read 0 0 = 2; deliver 0 = 2; status 0 = 2; copy 0 0 0 = -1")
            .due("client 0 0 = 2");
        Run.on(word, "it waits for a write", 1, 1, 10, 9)
            .due("read 0 0 = 2; deliver 0 = 0; crash 0 = 0; write 0 0 5 = 2; deliver 0 = 2; status 0 = 2; copy 0 0 0 = -1");
        Run.on(word, "it is idle", 1, 1, 10, 9)
            .due("read 0 0 = 2; deliver 0 = 0; crash 0 = 0; deliver 0 = 2; status 0 = 0; copy 0 0 0 = -1; pending = 0");
        Run.on(word, "it is done already", 2, 1, 10, 9)
            .due("read 0 0 = 2; retry 0 = 1; deliver 0 = 0; deliver 1 = 2; tick 10 = 0; write 1 0 5 = 2; deliver 1 = 1")
            .due("deliver 1 = 3")
            .due("deliver 0 = 0; message 0 4 = 5; deliver 0 = 2; result 0 = 0; version 0 = 0; copy 0 0 1 = 0; copy 0 0 2 = 0");
        Run.on("that is done with the value and version", "the first ones", 1, 1, 10, 9).copyFor(0, 0)
            .due("result 0 = 0; version 0 = 0");
        Run.on("that is done with the value and version", "the value is NONE's number", 1, 1, 10, 9).storedBy(0, 0, -1)
            .copyFor(0, 0)
            .due("result 0 = -1; version 0 = 1; copy 0 0 1 = -1; copy 0 0 2 = 1; read 0 0 = 1; result 0 = -1");
    }

    private static void copyOfGiven() {
        Run.on("if there is a lease", "there is none", 3, 1, 10, 9).copyFor(0, 0)
            .due("write 1 0 5 = 2; deliver 0 = 1; lose 0 = 1; read 2 0 = 2; deliver 0 = 0; message 0 6 = 0; deliver 0 = 2")
            .due("status 2 = 1; result 2 = 0; version 2 = 0; copy 2 0 0 = -1; crash 2 = 0");
        Run.on("and the read is not SPOILED", "it is spoiled, and has a lease", 2, 1, 10, 9)
            .due("read 0 0 = 2; deliver 0 = 0; write 1 0 5 = 2; deliver 1 = 1; deliver 1 = 4; message 0 6 = 1; deliver 0 = 2")
            .due("status 0 = 1; result 0 = 0; version 0 = 0; copy 0 0 0 = -1");
        Run.on("and the read is not SPOILED", "it is the next read", 2, 1, 10, 9)
            .due("read 0 0 = 2; deliver 0 = 0; write 1 0 5 = 2; deliver 1 = 1; deliver 1 = 4; deliver 1 = 5; deliver 0 = 2")
            .due("deliver 0 = 3")
            .copyFor(0, 0).due("copy 0 0 0 = 9; copy 0 0 1 = 5");
        String end = "whose lease is over when its clock is what it was when the read began, and S more";
        Run.on(end, "it comes at once", 1, 1, 10, 6).due("pass 0 3 = 3; read 0 0 = 2; deliver 0 = 0; deliver 0 = 2")
            .due("copy 0 0 0 = 6");
        Run.on(end, "it comes one before the end", 1, 1, 10, 6)
            .due("pass 0 3 = 3; read 0 0 = 2; deliver 0 = 0; pass 0 5 = 8; deliver 0 = 2; copy 0 0 0 = 1; read 0 0 = 1");
        Run.on(end, "it comes at the end", 1, 1, 10, 6)
            .due("pass 0 3 = 3; read 0 0 = 2; deliver 0 = 0; pass 0 6 = 9; deliver 0 = 2; status 0 = 1; copy 0 0 0 = 0")
            .due("copy 0 0 1 = 0; read 0 0 = 2");
        Run.on(end, "it comes behind the end", 1, 1, 10, 6)
            .due("pass 0 3 = 3; read 0 0 = 2; deliver 0 = 0; pass 0 9 = 12; deliver 0 = 2; status 0 = 1; copy 0 0 0 = 0")
            .due("copy 0 0 1 = 0; crash 0 = 1");
        Run.on(end, "a retry is no new beginning", 1, 1, 10, 6)
            .due("read 0 0 = 2; pass 0 2 = 2; retry 0 = 1; deliver 1 = 0; deliver 1 = 2; copy 0 0 0 = 4");
        Run.on(end, "the server's clock does not count", 1, 1, 10, 6)
            .due("tick 8 = 0; read 0 0 = 2; deliver 0 = 0; tick 8 = 0; deliver 0 = 2; copy 0 0 0 = 6");
    }

    private static void stored() {
        String word = "if it waits for a write with this word, that is done";
        Run.on(word, "this one", 1, 1, 10, 9).due("write 0 0 5 = 2; deliver 0 = 1; status 0 = 2; deliver 0 = 3; status 0 = 1")
            .due("version 0 = 1");
        Run.on(word, "it waits for the next one", 1, 1, 10, 9)
            .due("write 0 0 5 = 2; deliver 0 = 1; crash 0 = 0; write 0 0 6 = 2; deliver 0 = 3; status 0 = 2; version 0 = -1");
        Run.on(word, "it waits for a read", 1, 1, 10, 9)
            .due("write 0 0 5 = 2; deliver 0 = 1; crash 0 = 0; read 0 0 = 2; deliver 0 = 3; status 0 = 2; version 0 = -1");
        Run.on(word, "it is idle", 1, 1, 10, 9).due("write 0 0 5 = 2; deliver 0 = 1; crash 0 = 0; deliver 0 = 3; status 0 = 0")
            .due("version 0 = -1");
        Run.on(word, "it is done already", 1, 1, 10, 9)
            .due("write 0 0 5 = 2; retry 0 = 1; deliver 0 = 1; deliver 0 = 1; deliver 0 = 3; deliver 0 = 3; status 0 = 1")
            .due("version 0 = 1; pending = 0");
        Run.on("the result being the version, too", "it is not the value", 1, 1, 10, 9).storedBy(0, 0, 5)
            .due("result 0 = 1; version 0 = 1")
            .storedBy(0, 0, 5).due("result 0 = 2; version 0 = 2");
        Run.on("Otherwise both do nothing", "GIVEN once more", 1, 1, 10, 9)
            .due("read 0 0 = 2; retry 0 = 1; deliver 0 = 0; deliver 0 = 0; deliver 0 = 2; pass 0 4 = 4; read 0 0 = 1")
            .due("deliver 0 = 2; pending = 0; status 0 = 1; copy 0 0 0 = 5; client 0 0 = 2");
        Run.on("Otherwise both do nothing", "STORED once more", 1, 2, 10, 9).copyFor(0, 1)
            .due("write 0 0 5 = 2; retry 0 = 2; deliver 0 = 1; deliver 0 = 1; deliver 0 = 3; read 0 1 = 1")
            .due("deliver 0 = 3; pending = 0; status 0 = 1; result 0 = 0; version 0 = 0; copy 0 1 0 = 9");
    }

    private static void recall() {
        String gone = "its copy of the file is gone; if it waits for a read of that file, that is spoiled";
        Run.on(gone, "it has a copy", 2, 1, 10, 9).copyFor(0, 0)
            .due("write 1 0 5 = 2; deliver 0 = 1; deliver 0 = 4; copy 0 0 0 = -1; copy 0 0 1 = -1; status 0 = 1; result 0 = 0")
            .due("client 0 1 = 0");
        Run.on(gone, "its copy's lease is over by its own clock", 2, 1, 10, 9).copyFor(0, 0)
            .due("pass 0 9 = 9; write 1 0 5 = 2; deliver 0 = 1; deliver 0 = 4; copy 0 0 1 = -1; crash 0 = 0");
        Run.on(gone, "it has a copy of another file", 2, 2, 10, 9).copyFor(0, 0).copyFor(0, 1)
            .due("write 1 0 5 = 2; deliver 0 = 1; deliver 0 = 4; copy 0 0 0 = -1; copy 0 1 0 = 9");
        Run.on(gone, "it waits for a read of that file", 2, 1, 10, 9)
            .due("read 0 0 = 2; deliver 0 = 0; write 1 0 5 = 2; deliver 1 = 1; client 0 1 = 0; deliver 1 = 4; client 0 1 = 1")
            .due("status 0 = 2");
        Run.on(gone, "it waits for a read of another file", 2, 2, 10, 9).copyFor(0, 0)
            .due("read 0 1 = 2; write 1 0 5 = 2; deliver 1 = 1; deliver 1 = 4; client 0 1 = 0; deliver 0 = 0; deliver 1 = 2")
            .due("copy 0 1 0 = 9");
        Run.on(gone, "it waits for a write of that file", 2, 1, 10, 9).copyFor(0, 0)
            .due("write 1 0 5 = 2; deliver 0 = 1; write 0 0 6 = 2; deliver 0 = 4; client 0 1 = 0; status 0 = 2");
        Run.on(gone, "it is idle, and its next read is not spoiled", 2, 1, 10, 9).copyFor(0, 0)
            .due("write 1 0 5 = 2; deliver 0 = 1; crash 0 = 1; deliver 0 = 4; client 0 1 = 0; read 0 0 = 2; client 0 1 = 0");
        String sends = "and it sends 5 FREE (with the same word, a and b)";
        Run.on(sends, "an epoch that is not 0, a client that is not 0, a word that is not 1", 3, 2, 10, 9)
            .due("halt = 0; restart = 1; tick 10 = 0")
            .storedBy(2, 1, 4).copyFor(0, 1)
            .due("write 2 1 5 = 2; deliver 0 = 1; deliver 0 = 4; pending = 1; message 0 0 = 5; message 0 1 = 0; message 0 2 = 1")
            .due("message 0 3 = 2; message 0 4 = 2; message 0 5 = 1");
        Run.on(sends, "it has neither copy nor operation", 2, 1, 10, 9).copyFor(0, 0)
            .due("write 1 0 5 = 2; deliver 0 = 1; crash 0 = 1; deliver 0 = 4; pending = 1; message 0 0 = 5; message 0 1 = 0");
        Run.on(sends, "that epoch is no more", 2, 1, 10, 9).copyFor(0, 0)
            .due("write 1 0 5 = 2; deliver 0 = 1; halt = 1; restart = 1; deliver 0 = 4; message 0 0 = 5; message 0 5 = 0");
        Run.on(sends, "the pool was full", 3, 1, 10, 9).copyFor(0, 0).due("write 1 0 5 = 2; deliver 0 = 1; read 2 0 = 2")
            .times(62, "retry 2 = 1")
            .due("pending = 64; deliver 0 = 4; pending = 64; message 63 0 = 5");
    }
}
