/**
 * The sentences about the server in the document's section "Terms" that name a boundary case,
 * in their order: each run bears the words of its sentence, and the edge that it goes to.
 */
public final class BoundaryServerTermsTest {
    public static void main(String[] args) {
        atFirst();
        down();
        ask();
        putAgain();
        putToWait();
        putRecalls();
        freeThatFits();
        freeEndsALease();
        storeWhileWritesWait();
        storeWhenLeasesAreOver();
        storeWhenTheGraceIsOver();
        lastWrite();
        halted();
        restarted();
        refusals();
        Run.end();
    }

    private static void atFirst() {
        Run.on("THE SERVER is UP, at first, or down", "at first, down, and up again", 1, 1, 10, 9)
            .due("server 1 = 1; halt = 0; server 1 = 0; restart = 1; server 1 = 1");
        Run.on("It has an EPOCH, 0 at first", "it is 0, and so is b of RECALL", 2, 1, 10, 9).due("server 2 = 0").copyFor(0, 0)
            .due("write 1 0 5 = 2; deliver 0 = 1; message 0 0 = 4; message 0 5 = 0");
        Run.on("and for each client and file a lease", "at first all are over", 4, 4, 10, 9)
            .due("lease 0 0 = 0; lease 0 3 = 0; lease 3 0 = 0; lease 3 3 = 0");
        Run.on("and for each file the writes that wait, in their order", "none, one, two", 3, 2, 10, 9)
            .due("file 0 2 = 0; file 1 2 = 0")
            .copyFor(0, 1).due("write 2 1 5 = 2; deliver 0 = 1; file 1 2 = 1; file 1 3 = 2; write 1 1 6 = 2; deliver 1 = 1")
            .due("file 1 2 = 2; file 1 3 = 2; file 0 2 = 0; tick 10 = 2; file 1 0 = 6");
    }

    private static void down() {
        String lost = "While it is down, messages to it are lost when they come";
        Run.on(lost, "ASK", 1, 1, 10, 9).due("read 0 0 = 2; halt = 0; deliver 0 = 9; pending = 0; lease 0 0 = 0; status 0 = 2")
            .due("restart = 1; pending = 0; lease 0 0 = 0");
        Run.on(lost, "PUT", 1, 1, 10, 9).due("write 0 0 5 = 2; halt = 0; deliver 0 = 9; pending = 0; file 0 2 = 0; restart = 1")
            .due("tick 10 = 0; file 0 1 = 0; file 0 2 = 0");
        Run.on(lost, "PUT of the last write that was stored", 1, 1, 10, 9)
            .due("write 0 0 5 = 2; retry 0 = 1; deliver 0 = 1; lose 1 = 1; halt = 0; deliver 0 = 9; pending = 0; status 0 = 2");
        Run.on(lost, "FREE", 2, 1, 10, 9).copyFor(0, 0).due("write 1 0 5 = 2; deliver 0 = 1; deliver 0 = 4; halt = 1")
            .due("deliver 0 = 9; pending = 0; file 0 1 = 0");
        Run.on(lost, "not before they come", 2, 1, 10, 9)
            .due("read 0 0 = 2; halt = 0; read 1 0 = 2; pending = 2; restart = 1; pending = 2; deliver 0 = 0; deliver 0 = 0")
            .due("lease 0 0 = 10; lease 1 0 = 10");
        Run.on(lost, "not GIVEN, which goes to a client", 1, 1, 10, 9)
            .due("read 0 0 = 2; deliver 0 = 0; halt = 0; deliver 0 = 2; status 0 = 1; copy 0 0 0 = 9");
        Run.on(lost, "not STORED, which goes to a client", 1, 1, 10, 9)
            .due("write 0 0 5 = 2; deliver 0 = 1; halt = 0; deliver 0 = 3; status 0 = 1; version 0 = 1");
        Run.on(lost, "not RECALL, which goes to a client", 2, 1, 10, 9).copyFor(0, 0)
            .due("write 1 0 5 = 2; deliver 0 = 1; halt = 1; deliver 0 = 4; copy 0 0 0 = -1; message 0 0 = 5");
    }

    private static void ask() {
        String lease = "with a lease, if no write waits for the file";
        Run.on(lease, "none waits", 1, 1, 10, 9).due("read 0 0 = 2; deliver 0 = 0; message 0 6 = 1; lease 0 0 = 10");
        Run.on(lease, "one waits", 3, 1, 10, 9).copyFor(0, 0)
            .due("write 1 0 5 = 2; deliver 0 = 1; lose 0 = 1; read 2 0 = 2; deliver 0 = 0; message 0 0 = 2; message 0 6 = 0")
            .due("lease 2 0 = 0");
        Run.on(lease, "one waits, and the lease that there is gets no longer", 2, 1, 10, 9).copyFor(0, 0)
            .due("tick 4 = 0; pass 0 9 = 9; write 1 0 5 = 2; deliver 0 = 1; lose 0 = 1; read 0 0 = 2; deliver 0 = 0")
            .due("message 0 6 = 0; lease 0 0 = 6");
        Run.on(lease, "one waits for another file", 3, 2, 10, 9).copyFor(0, 0)
            .due("write 1 0 5 = 2; deliver 0 = 1; lose 0 = 1; read 2 1 = 2; deliver 0 = 0; message 0 6 = 1; lease 2 1 = 10");
        Run.on(lease, "the one that waited is stored", 3, 1, 10, 9).copyFor(0, 0)
            .due("write 1 0 5 = 2; deliver 0 = 1; lose 0 = 1; tick 10 = 1; deliver 0 = 3; read 2 0 = 2; deliver 0 = 0")
            .due("message 0 4 = 5; message 0 5 = 1; message 0 6 = 1");
        Run.on(lease, "the one that waited is lost with all that wait", 3, 1, 10, 9).copyFor(0, 0)
            .due("write 1 0 5 = 2; deliver 0 = 1; lose 0 = 1; halt = 1; restart = 1; read 2 0 = 2; deliver 0 = 0")
            .due("message 0 6 = 1; lease 2 0 = 10");
        String end = "that client's lease is over when the server's clock is T more than it is now";
        Run.on(end, "one before, then, and behind", 1, 1, 10, 9)
            .due("tick 5 = 0; read 0 0 = 2; deliver 0 = 0; lease 0 0 = 10; tick 9 = 0; lease 0 0 = 1; tick 1 = 0; lease 0 0 = 0")
            .due("tick 1 = 0; lease 0 0 = 0");
        Run.on(end, "the shortest term", 1, 1, 1, 1).due("read 0 0 = 2; deliver 0 = 0; lease 0 0 = 1; tick 0 = 0; lease 0 0 = 1")
            .due("tick 1 = 0; lease 0 0 = 0");
        Run.on(end, "the longest term", 1, 1, 1000, 1).due("read 0 0 = 2; deliver 0 = 0; lease 0 0 = 1000; tick 999 = 0")
            .due("lease 0 0 = 1; tick 1 = 0; lease 0 0 = 0");
        Run.on(end, "an ASK that comes late, and once more", 1, 1, 10, 9)
            .due("read 0 0 = 2; retry 0 = 1; tick 7 = 0; deliver 0 = 0; lease 0 0 = 10; tick 3 = 0; lease 0 0 = 7")
            .due("deliver 0 = 0; lease 0 0 = 10");
        Run.on(end, "no other client's, nor that of another file", 2, 2, 10, 9)
            .due("read 1 0 = 2; deliver 0 = 0; lease 1 0 = 10; lease 0 0 = 0; lease 1 1 = 0; lease 0 1 = 0");
    }

    private static void putAgain() {
        String last = "if the word is that of this client's last write that was stored, it sends STORED with that word, and the version that it got";
        Run.on(last, "it is", 1, 1, 10, 9)
            .due("write 0 0 5 = 2; retry 0 = 1; deliver 0 = 1; deliver 1 = 3; deliver 0 = 1; pending = 1; message 0 0 = 3")
            .due("message 0 1 = 0; message 0 2 = 0")
            .due("message 0 3 = 1; message 0 4 = 1; file 0 1 = 1; file 0 2 = 0");
        Run.on(last, "it is, and another client's was stored behind it", 2, 2, 10, 9)
            .due("write 0 1 5 = 2; retry 0 = 1; deliver 0 = 1; lose 1 = 1; write 1 1 6 = 2; deliver 1 = 1; deliver 1 = 3")
            .due("file 1 1 = 2")
            .due("deliver 0 = 1; message 0 0 = 3; message 0 2 = 1; message 0 4 = 1; file 1 0 = 6; file 1 1 = 2");
        Run.on(last, "it is, and a lease and another write are there", 3, 1, 10, 9)
            .due("write 0 0 5 = 2; retry 0 = 1; deliver 0 = 1; deliver 1 = 3; read 1 0 = 2")
            .due("deliver 1 = 0; deliver 1 = 2; write 2 0 6 = 2; deliver 1 = 1; lose 1 = 1; deliver 0 = 1; pending = 1")
            .due("message 0 0 = 3; message 0 1 = 0; file 0 2 = 1");
        Run.on(last, "it is that of another client's", 2, 1, 10, 9)
            .due("write 0 0 5 = 2; write 1 0 6 = 2; deliver 0 = 1; deliver 0 = 1; message 1 1 = 1; message 1 4 = 2")
            .due("file 0 0 = 6; file 0 1 = 2");
        Run.on(last, "it is one more", 1, 1, 10, 9).storedBy(0, 0, 5)
            .due("write 0 0 6 = 2; deliver 0 = 1; message 0 3 = 2; message 0 4 = 2; file 0 0 = 6; file 0 1 = 2");
        String less = "If it is less than that, nothing happens";
        Run.on(less, "it is one less", 1, 1, 10, 9)
            .due("write 0 0 5 = 2; crash 0 = 0; write 0 0 6 = 2; deliver 1 = 1; deliver 1 = 3; deliver 0 = 1; pending = 0")
            .due("file 0 0 = 6; file 0 1 = 1; file 0 2 = 0");
        Run.on(less, "it is two less, and of another file", 1, 2, 10, 9)
            .due("write 0 0 5 = 2; crash 0 = 0; read 0 0 = 2; lose 1 = 1; crash 0 = 0; write 0 1 6 = 2; deliver 1 = 1")
            .due("deliver 1 = 3; client 0 0 = 3")
            .due("deliver 0 = 1; pending = 0; file 0 1 = 0; file 0 2 = 0; file 1 1 = 1");
        Run.on(less, "it waits, and is the first, but no RECALL is sent", 2, 2, 10, 9).copyFor(1, 0)
            .due("write 0 0 5 = 2; retry 0 = 1; deliver 0 = 1; lose 1 = 1; crash 0 = 0; write 0 1 6 = 2; deliver 1 = 1")
            .due("deliver 1 = 3")
            .due("deliver 0 = 1; pending = 0; file 0 2 = 1; lease 1 0 = 10");
        Run.on(less, "it is less than the client's number, but more than that", 1, 1, 10, 9).storedBy(0, 0, 5)
            .due("write 0 0 6 = 2; crash 0 = 0; write 0 0 7 = 2; deliver 0 = 1; file 0 0 = 6; file 0 1 = 2; deliver 0 = 1")
            .due("file 0 0 = 7; file 0 1 = 3");
        Run.on(less, "no write of this client was stored yet", 1, 1, 10, 9)
            .due("write 0 0 5 = 2; deliver 0 = 1; file 0 1 = 1; message 0 4 = 1");
    }

    private static void putToWait() {
        String waits = "If it waits already, or else after it came to wait as the last one";
        Run.on(waits, "it waits already", 2, 1, 10, 9).copyFor(0, 0)
            .due("write 1 0 5 = 2; retry 1 = 1; deliver 0 = 1; file 0 2 = 1; deliver 0 = 1; file 0 2 = 1; tick 10 = 1")
            .due("file 0 1 = 1");
        Run.on(waits, "it waits already, and keeps its place", 3, 1, 10, 9).copyFor(0, 0)
            .due("write 1 0 5 = 2; retry 1 = 1; deliver 0 = 1; lose 1 = 1; write 2 0 6 = 2; deliver 1 = 1; deliver 0 = 1")
            .due("file 0 2 = 2; file 0 3 = 1; tick 10 = 2; file 0 0 = 6");
        Run.on(waits, "it waits already as the second", 3, 1, 10, 9).copyFor(0, 0)
            .due("write 1 0 5 = 2; deliver 0 = 1; lose 0 = 1; write 2 0 6 = 2; retry 2 = 1; deliver 0 = 1; deliver 0 = 1")
            .due("file 0 2 = 2; tick 10 = 2; file 0 1 = 2");
        Run.on(waits, "one of the same client with another word waits", 2, 1, 10, 9).copyFor(1, 0)
            .due("write 0 0 5 = 2; deliver 0 = 1; lose 0 = 1; crash 0 = 0; write 0 0 6 = 2; deliver 0 = 1; file 0 2 = 2")
            .due("tick 10 = 2; file 0 0 = 6; file 0 1 = 2");
        Run.on(waits, "one of another client with the same word waits", 3, 1, 10, 9).copyFor(0, 0)
            .due("write 1 0 5 = 2; deliver 0 = 1; lose 0 = 1; write 2 0 6 = 2; deliver 0 = 1; file 0 2 = 2; file 0 3 = 1")
            .due("tick 10 = 2; file 0 0 = 6");
    }

    private static void putRecalls() {
        String first = "when it is the first one that waits for its file, RECALL is sent";
        Run.on(first, "it is the first", 2, 1, 10, 9).copyFor(0, 0)
            .due("write 1 0 5 = 2; deliver 0 = 1; pending = 1; message 0 0 = 4; message 0 1 = 0");
        Run.on(first, "it is the first once more", 2, 1, 10, 9).copyFor(0, 0)
            .due("write 1 0 5 = 2; deliver 0 = 1; lose 0 = 1; retry 1 = 1; deliver 0 = 1; pending = 1; message 0 0 = 4")
            .due("message 0 1 = 0");
        Run.on(first, "it is the first once more, and another waits behind it", 3, 1, 10, 9).copyFor(0, 0)
            .due("write 1 0 5 = 2; deliver 0 = 1; lose 0 = 1; write 2 0 6 = 2; deliver 0 = 1; retry 1 = 1; deliver 0 = 1")
            .due("pending = 1; message 0 0 = 4; message 0 4 = 1");
        Run.on(first, "it is the second", 3, 1, 10, 9).copyFor(0, 0)
            .due("write 1 0 5 = 2; deliver 0 = 1; lose 0 = 1; write 2 0 6 = 2; deliver 0 = 1; pending = 0; file 0 2 = 2");
        Run.on(first, "it is the second once more", 3, 1, 10, 9).copyFor(0, 0)
            .due("write 1 0 5 = 2; deliver 0 = 1; lose 0 = 1; write 2 0 6 = 2; deliver 0 = 1; retry 2 = 1; deliver 0 = 1")
            .due("pending = 0; file 0 2 = 2");
        Run.on(first, "it is the second of its client", 2, 1, 10, 9).copyFor(1, 0)
            .due("write 0 0 5 = 2; deliver 0 = 1; lose 0 = 1; crash 0 = 0; write 0 0 6 = 2; deliver 0 = 1; pending = 0")
            .due("file 0 2 = 2");
        Run.on(first, "it is the first for its file, the second of all", 3, 2, 10, 9).copyFor(0, 0).copyFor(0, 1)
            .due("write 1 0 5 = 2; deliver 0 = 1; lose 0 = 1; write 2 1 6 = 2; deliver 0 = 1; pending = 1; message 0 0 = 4")
            .due("message 0 2 = 1; message 0 4 = 2");
        Run.on("by their numbers", "the last one asked first", 4, 1, 10, 9).copyFor(3, 0).copyFor(0, 0).copyFor(2, 0)
            .due("write 1 0 5 = 2; deliver 0 = 1; pending = 3; message 0 1 = 0; message 1 1 = 2; message 2 1 = 3");
        String over = "to the clients whose lease of the file is not over";
        Run.on(over, "one before its end", 2, 1, 10, 9).copyFor(0, 0)
            .due("tick 9 = 0; write 1 0 5 = 2; deliver 0 = 1; pending = 1; message 0 0 = 4; file 0 2 = 1");
        Run.on(over, "at its end", 2, 1, 10, 9).copyFor(0, 0)
            .due("tick 10 = 0; write 1 0 5 = 2; deliver 0 = 1; pending = 1; message 0 0 = 3; file 0 2 = 0");
        Run.on(over, "one is over, one is not", 3, 1, 10, 9).copyFor(0, 0).due("tick 1 = 0").copyFor(1, 0)
            .due("tick 9 = 0; write 2 0 5 = 2; deliver 0 = 1; pending = 1; message 0 0 = 4; message 0 1 = 1");
        Run.on(over, "none has one, in the grace", 2, 1, 10, 9)
            .due("halt = 0; restart = 1; write 1 0 5 = 2; deliver 0 = 1; pending = 0; file 0 2 = 1");
        Run.on(over, "it is of another file", 2, 2, 10, 9).copyFor(0, 0)
            .due("write 1 1 5 = 2; deliver 0 = 1; pending = 1; message 0 0 = 3; file 1 1 = 1");
        Run.on(over, "the clients' own clocks do not count", 2, 1, 10, 9).copyFor(0, 0)
            .due("pass 0 1000 = 1000; write 1 0 5 = 2; deliver 0 = 1; pending = 1; message 0 0 = 4");
        Run.on("whoever wrote it, too", "it alone has a lease", 1, 1, 10, 9).copyFor(0, 0)
            .due("write 0 0 5 = 2; deliver 0 = 1; pending = 1; message 0 0 = 4; message 0 1 = 0; message 0 4 = 0; file 0 2 = 1")
            .due("deliver 0 = 4; deliver 0 = 5; file 0 1 = 1");
    }

    private static void freeThatFits() {
        String epoch = "if b is the server's epoch";
        Run.on(epoch, "it is 0", 2, 1, 10, 9).copyFor(0, 0).due("write 1 0 5 = 2; deliver 0 = 1; deliver 0 = 4; deliver 0 = 5")
            .due("lease 0 0 = 0; file 0 1 = 1");
        Run.on(epoch, "it is 1", 2, 1, 10, 9).due("halt = 0; restart = 1").copyFor(0, 0)
            .due("write 1 0 5 = 2; deliver 0 = 1; deliver 0 = 4; message 0 5 = 1; deliver 0 = 5; lease 0 0 = 0");
        // The same write is the first again, and the client has a lease again, so the epoch alone is wrong.
        Run.on(epoch, "it is one less", 2, 1, 10, 9).copyFor(0, 0)
            .due("write 1 0 5 = 2; deliver 0 = 1; deliver 0 = 4; halt = 1; restart = 1; read 0 0 = 2; deliver 1 = 0; lose 1 = 1")
            .due("retry 1 = 1; deliver 1 = 1; lose 1 = 1; file 0 3 = 1; message 0 5 = 0; deliver 0 = 5; lease 0 0 = 10");
        String first = "and the first write that waits for the file is client a's with this word";
        Run.on(first, "no write waits", 2, 1, 10, 9).copyFor(0, 0)
            .due("write 1 0 5 = 2; deliver 0 = 1; deliver 0 = 4; tick 10 = 1; deliver 1 = 3; read 0 0 = 2; deliver 1 = 0")
            .due("lose 1 = 1; file 0 3 = -1")
            .due("deliver 0 = 5; lease 0 0 = 10; pending = 0");
        Run.on(first, "it is another client's with this word", 3, 1, 10, 9).copyFor(0, 0)
            .due("write 1 0 5 = 2; deliver 0 = 1; deliver 0 = 4; tick 10 = 1; deliver 1 = 3; read 0 0 = 2; deliver 1 = 0")
            .due("lose 1 = 1")
            .due("write 2 0 6 = 2; deliver 1 = 1; lose 1 = 1; client 2 0 = 1; message 0 3 = 1; message 0 4 = 1; file 0 3 = 2")
            .due("deliver 0 = 5; lease 0 0 = 10; file 0 2 = 1");
        Run.on(first, "it is client a's with the next word", 2, 1, 10, 9).copyFor(0, 0)
            .due("write 1 0 5 = 2; deliver 0 = 1; deliver 0 = 4; tick 10 = 1; deliver 1 = 3; read 0 0 = 2; deliver 1 = 0")
            .due("lose 1 = 1")
            .due("write 1 0 6 = 2; deliver 1 = 1; lose 1 = 1; client 1 0 = 2; message 0 3 = 1; message 0 4 = 1; file 0 3 = 1")
            .due("deliver 0 = 5; lease 0 0 = 10; file 0 2 = 1");
        Run.on(first, "it is, and others wait behind it", 3, 1, 10, 9).copyFor(0, 0)
            .due("write 1 0 5 = 2; deliver 0 = 1; write 2 0 6 = 2; deliver 1 = 1; deliver 0 = 4; deliver 0 = 5; file 0 1 = 2")
            .due("file 0 0 = 6");
    }

    private static void freeEndsALease() {
        String over = "the lease of the client from which it comes is over now";
        Run.on(over, "no other client's, nor that of another file", 3, 2, 10, 9).copyFor(0, 0).copyFor(1, 0).copyFor(0, 1)
            .due("write 2 0 5 = 2; deliver 0 = 1; deliver 0 = 4; deliver 1 = 5; lease 0 0 = 0; lease 1 0 = 10; lease 0 1 = 10")
            .due("file 0 2 = 1");
        Run.on(over, "it is over already", 3, 1, 10, 9).copyFor(0, 0).due("tick 1 = 0").copyFor(1, 0)
            .due("write 2 0 5 = 2; deliver 0 = 1; deliver 0 = 4; tick 9 = 0; lease 0 0 = 0; deliver 1 = 5; lease 0 0 = 0")
            .due("lease 1 0 = 1; file 0 2 = 1");
        Run.on(over, "it has no copy, but a lease", 2, 1, 10, 9).copyFor(0, 0)
            .due("crash 0 = 1; write 1 0 5 = 2; deliver 0 = 1; deliver 0 = 4; deliver 0 = 5; lease 0 0 = 0; file 0 1 = 1");
        Run.on(over, "one before its end", 2, 1, 10, 9).copyFor(0, 0)
            .due("tick 9 = 0; write 1 0 5 = 2; deliver 0 = 1; deliver 0 = 4; lease 0 0 = 1; deliver 0 = 5; lease 0 0 = 0")
            .due("file 0 1 = 1");
    }

    private static void storeWhileWritesWait() {
        String behind = "Behind each of these, and when time goes by";
        Run.on(behind, "behind PUT", 1, 1, 10, 9).due("write 0 0 5 = 2; file 0 1 = 0; deliver 0 = 1; file 0 1 = 1; tick 0 = 0");
        Run.on(behind, "behind FREE", 2, 1, 10, 9).copyFor(0, 0)
            .due("write 1 0 5 = 2; deliver 0 = 1; deliver 0 = 4; file 0 1 = 0; deliver 0 = 5; file 0 1 = 1; tick 0 = 0");
        Run.on(behind, "when time goes by, but not a client's", 2, 1, 10, 9).copyFor(0, 0)
            .due("write 1 0 5 = 2; deliver 0 = 1; pass 0 1000 = 1000; pass 1 1000 = 1000; file 0 1 = 0; tick 0 = 0")
            .due("file 0 1 = 0; tick 10 = 1; file 0 1 = 1");
        String waits = "as long as a write waits for it";
        Run.on(waits, "none waits", 1, 1, 10, 9).due("tick 0 = 0; tick 10 = 0; file 0 1 = 0; pending = 0");
        Run.on(waits, "three wait", 4, 1, 10, 9).copyFor(0, 0)
            .due("write 3 0 30 = 2; deliver 0 = 1; lose 0 = 1; write 1 0 10 = 2; deliver 0 = 1; write 2 0 20 = 2; deliver 0 = 1")
            .due("file 0 2 = 3; tick 10 = 3; file 0 2 = 0")
            .due("file 0 0 = 20; file 0 1 = 3; message 0 1 = 3; message 1 1 = 1; message 2 1 = 2; message 0 4 = 1")
            .due("message 1 4 = 2; message 2 4 = 3; pending = 3");
        Run.on("for each file by its number", "the write for the last file came first", 3, 3, 10, 9).due("halt = 0; restart = 1")
            .due("write 0 2 5 = 2; deliver 0 = 1; write 1 0 6 = 2; deliver 0 = 1; write 2 1 7 = 2; deliver 0 = 1; tick 10 = 3")
            .due("message 0 2 = 0; message 0 1 = 1; message 1 2 = 1; message 1 1 = 2; message 2 2 = 2; message 2 1 = 0");
        Run.on("the file gets its value, and a version one more", "no other file", 1, 2, 10, 9).storedBy(0, 1, 5)
            .due("file 1 0 = 5; file 1 1 = 1; file 0 0 = 0; file 0 1 = 0")
            .storedBy(0, 1, 5).due("file 1 0 = 5; file 1 1 = 2");
    }

    private static void storeWhenLeasesAreOver() {
        String over = "no client's lease of it is not over";
        Run.on(over, "nobody had one", 1, 1, 10, 9).due("write 0 0 5 = 2; deliver 0 = 1; file 0 1 = 1; file 0 2 = 0");
        Run.on(over, "one before its end, and at its end", 2, 1, 10, 9).copyFor(0, 0)
            .due("write 1 0 5 = 2; deliver 0 = 1; tick 9 = 0; file 0 1 = 0; tick 0 = 0; tick 1 = 1; file 0 1 = 1");
        Run.on(over, "the last client's is not over yet", 4, 1, 10, 9).copyFor(0, 0).due("tick 1 = 0").copyFor(3, 0)
            .due("write 1 0 5 = 2; deliver 0 = 1; tick 9 = 0; lease 0 0 = 0; lease 3 0 = 1; file 0 2 = 1; tick 1 = 1");
        Run.on(over, "the first client's is not over yet", 4, 1, 10, 9).copyFor(3, 0).due("tick 1 = 0").copyFor(0, 0)
            .due("write 1 0 5 = 2; deliver 0 = 1; tick 9 = 0; lease 3 0 = 0; lease 0 0 = 1; file 0 2 = 1; tick 1 = 1");
        Run.on(over, "the writer's own is not over yet", 1, 1, 10, 9).copyFor(0, 0)
            .due("write 0 0 5 = 2; deliver 0 = 1; tick 9 = 0; file 0 2 = 1; tick 1 = 1");
        Run.on(over, "it is given up by one of two", 3, 1, 10, 9).copyFor(0, 0).copyFor(1, 0)
            .due("write 2 0 5 = 2; deliver 0 = 1; deliver 0 = 4; deliver 1 = 5; file 0 2 = 1; deliver 0 = 4; deliver 0 = 5")
            .due("file 0 2 = 0; file 0 1 = 1");
        Run.on(over, "it is of another file", 2, 2, 10, 9).copyFor(0, 0)
            .due("write 1 1 5 = 2; deliver 0 = 1; file 1 1 = 1; lease 0 0 = 10");
        Run.on(over, "one file's write is stored, the other's waits", 3, 2, 10, 9).copyFor(0, 0).due("tick 1 = 0").copyFor(0, 1)
            .due("write 1 1 5 = 2; deliver 0 = 1; write 2 0 6 = 2; deliver 1 = 1; tick 9 = 1; file 0 1 = 1; file 1 1 = 0")
            .due("file 1 2 = 1; tick 1 = 1; file 1 1 = 1");
    }

    private static void storeWhenTheGraceIsOver() {
        String over = "and the server's GRACE is over";
        Run.on(over, "one before its end, and at its end", 1, 1, 10, 9)
            .due("halt = 0; restart = 1; write 0 0 5 = 2; deliver 0 = 1; tick 9 = 0; file 0 2 = 1; tick 1 = 1; file 0 1 = 1");
        Run.on(over, "a PUT comes one before its end", 1, 1, 10, 9)
            .due("halt = 0; restart = 1; tick 9 = 0; write 0 0 5 = 2; deliver 0 = 1; file 0 1 = 0; file 0 2 = 1");
        Run.on(over, "a PUT comes at its end", 1, 1, 10, 9).due("halt = 0; restart = 1; tick 10 = 0; write 0 0 5 = 2")
            .due("deliver 0 = 1; file 0 1 = 1; file 0 2 = 0");
        Run.on(over, "it is not, but the lease is given up", 2, 1, 10, 9).due("halt = 0; restart = 1").copyFor(0, 0)
            .due("write 1 0 5 = 2; deliver 0 = 1; deliver 0 = 4; deliver 0 = 5; lease 0 0 = 0; file 0 2 = 1; file 0 1 = 0")
            .due("tick 9 = 0; tick 1 = 1");
        Run.on(over, "it is, but a lease is not", 2, 1, 10, 9).due("halt = 0; restart = 1; tick 1 = 0").copyFor(0, 0)
            .due("write 1 0 5 = 2; deliver 0 = 1; tick 9 = 0; server 3 = 0; lease 0 0 = 1; file 0 2 = 1; tick 1 = 1");
    }

    private static void lastWrite() {
        String greater = "if its word is greater than that of its client's last write, it is the last one now, with this version";
        // Each run asks by a PUT once more, for it is answered with STORED only if its word is the last one's.
        Run.on(greater, "it is the first one stored", 1, 1, 10, 9)
            .due("write 0 0 5 = 2; retry 0 = 1; deliver 0 = 1; lose 1 = 1; deliver 0 = 1; message 0 0 = 3; message 0 3 = 1")
            .due("message 0 4 = 1");
        Run.on(greater, "it is greater", 1, 2, 10, 9).storedBy(0, 0, 5).storedBy(0, 0, 6)
            .due("write 0 1 7 = 2; retry 0 = 3; deliver 0 = 1; lose 1 = 1; deliver 0 = 1; message 0 0 = 3; message 0 3 = 3")
            .due("message 0 4 = 1; file 1 1 = 1");
        Run.on(greater, "it is less: the last one stays, with its version", 2, 2, 10, 9).storedBy(1, 0, 4).copyFor(1, 0)
            .due("write 0 0 5 = 2; deliver 0 = 1; lose 0 = 1; crash 0 = 0; write 0 1 6 = 2; retry 0 = 2; deliver 0 = 1")
            .due("lose 1 = 1; tick 10 = 1; lose 1 = 1")
            .due("file 0 0 = 5; file 0 1 = 2; pending = 1; deliver 0 = 1; pending = 1; message 0 0 = 3; message 0 3 = 2")
            .due("message 0 4 = 1; file 1 1 = 1");
        Run.on(greater, "it is less: STORED is sent all the same", 2, 2, 10, 9).copyFor(1, 0)
            .due("write 0 0 5 = 2; deliver 0 = 1; lose 0 = 1; crash 0 = 0").storedBy(0, 1, 6)
            .due("tick 10 = 1; pending = 1; message 0 0 = 3; message 0 1 = 0; message 0 2 = 0; message 0 3 = 1; message 0 4 = 1");
        Run.on(greater, "it is another client's", 2, 1, 10, 9)
            .due("write 0 0 5 = 2; retry 0 = 1; deliver 0 = 1; lose 1 = 1; write 1 0 6 = 2; crash 1 = 0; write 1 0 7 = 2")
            .due("deliver 2 = 1; lose 2 = 1")
            .due("deliver 0 = 1; message 1 0 = 3; message 1 1 = 0; message 1 4 = 1");
    }

    private static void halted() {
        String over = "When the server goes down, its leases are all over, and no write waits any more";
        Run.on(over, "there are none", 1, 1, 10, 9).due("halt = 0; lease 0 0 = 0; file 0 2 = 0; file 0 3 = -1");
        Run.on(over, "leases of the first and last client and file", 4, 4, 10, 9).copyFor(0, 0).copyFor(0, 3).copyFor(3, 0)
            .copyFor(3, 3)
            .due("halt = 0; lease 0 0 = 0; lease 0 3 = 0; lease 3 0 = 0; lease 3 3 = 0; restart = 1; lease 0 0 = 0")
            .due("lease 3 3 = 0");
        Run.on(over, "writes for the first and last file", 3, 4, 10, 9).copyFor(0, 0).copyFor(0, 3)
            .due("write 0 0 5 = 2; deliver 0 = 1; lose 0 = 1; write 1 3 6 = 2; deliver 0 = 1; lose 0 = 1; write 2 3 7 = 2")
            .due("deliver 0 = 1; halt = 3")
            .due("file 0 2 = 0; file 0 3 = -1; file 3 2 = 0; file 3 3 = -1; restart = 1; tick 1000 = 0; file 0 1 = 0")
            .due("file 3 1 = 0");
        Run.on(over, "the clients' copies are there still", 1, 1, 10, 9).copyFor(0, 0)
            .due("halt = 0; copy 0 0 0 = 9; read 0 0 = 1");
        Run.on(over, "time goes by while it is down", 2, 1, 10, 9).copyFor(0, 0)
            .due("write 1 0 5 = 2; deliver 0 = 1; halt = 1; tick 10 = 0; file 0 1 = 0; status 1 = 2");
    }

    private static void restarted() {
        Run.on("When it comes up again, its epoch is one more", "once and twice, and not when it goes down", 1, 1, 10, 9)
            .due("halt = 0; server 2 = 0; restart = 1; server 2 = 1; halt = 0; server 2 = 1; restart = 2; server 2 = 2");
        String grace = "and its grace is over T after that by its clock";
        Run.on(grace, "one before, then, and behind", 1, 1, 10, 9)
            .due("halt = 0; restart = 1; server 3 = 10; tick 9 = 0; server 3 = 1; tick 1 = 0; server 3 = 0; tick 1 = 0")
            .due("server 3 = 0");
        Run.on(grace, "the time while it was down does not count", 1, 1, 10, 9)
            .due("tick 3 = 0; halt = 0; tick 6 = 0; restart = 1; server 3 = 10; tick 4 = 0; server 3 = 6");
        Run.on(grace, "the shortest term", 1, 1, 1, 1).due("halt = 0; restart = 1; server 3 = 1; write 0 0 5 = 2; deliver 0 = 1")
            .due("tick 0 = 0; tick 1 = 1; server 3 = 0");
        Run.on(grace, "the longest term", 1, 1, 1000, 1).due("halt = 0; restart = 1; server 3 = 1000; write 0 0 5 = 2")
            .due("deliver 0 = 1; tick 999 = 0; tick 1 = 1; server 3 = 0");
        Run.on(grace, "it comes up again before it is over", 1, 1, 10, 9)
            .due("halt = 0; restart = 1; tick 9 = 0; halt = 0; restart = 2; server 3 = 10; write 0 0 5 = 2; deliver 0 = 1")
            .due("tick 9 = 0; server 3 = 1; tick 1 = 1");
        Run.on("at first it is over", "the first PUT is stored at once", 1, 1, 1000, 9)
            .due("server 3 = 0; write 0 0 5 = 2; deliver 0 = 1; file 0 1 = 1; file 0 2 = 0");
    }

    private static void refusals() {
        String nothing = "What answers NONE or false changes nothing";
        Run.on(nothing, "while the server is up", 2, 2, 10, 9).busy()
            .refused("read 2 0 = -1").refused("read 0 2 = -1").refused("write 2 0 5 = -1").refused("write 0 2 5 = -1")
            .refused("retry 2 = -1")
            .refused("status 2 = -1").refused("version 0 = -1").refused("version 2 = -1").refused("deliver 2 = -1")
            .refused("lose 2 = 0")
            .refused("message 2 0 = -1").refused("message 0 7 = -1").refused("tick 1001 = -1").refused("tick -1 = -1")
            .refused("pass 2 1 = -1")
            .refused("pass 0 1001 = -1").refused("pass 0 -1 = -1").refused("crash 2 = -1").refused("restart = -1")
            .refused("copy 0 0 3 = -1")
            .refused("copy 1 0 0 = -1").refused("lease 2 0 = -1").refused("lease 0 2 = -1").refused("file 2 0 = -1")
            .refused("file 0 4 = -1")
            .refused("file 0 3 = -1").refused("server 4 = -1").refused("client 2 0 = -1")
            // What it does next shows that nothing was changed that can't be asked for either.
            .due("deliver 1 = 5; lease 1 1 = 0; tick 5 = 0; tick 1 = 1; deliver 0 = 2; copy 1 1 0 = -1; deliver 0 = 3")
            .due("version 0 = 1; file 1 0 = 7");
        Run.on(nothing, "while the server is down", 2, 2, 10, 9).busy().due("halt = 1")
            .refused("halt = -1").refused("deliver 2 = -1").refused("lose -1 = 0").refused("tick 1001 = -1")
            .refused("file 1 3 = -1")
            .due("restart = 2; server 3 = 10");
    }
}
