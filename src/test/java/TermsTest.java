/** The document's section "Terms": what clients and the server do with each message, and what is lost when. */
public final class TermsTest {
    public static void main(String[] args) {
        given();
        stored();
        recalled();
        asked();
        put();
        putAgain();
        lastWrite();
        freed();
        manyWait();
        grace();
        fullPool();
        Run.end();
    }

    private static void given() {
        Run.on("GIVEN of an older word does nothing", 1, 2, 10, 9).due(
            "read 0 0 = 2; deliver 0 = 0; crash 0 = 0; read 0 0 = 2; deliver 0 = 2; status 0 = 2; copy 0 0 0 = -1",
            "deliver 0 = 0; deliver 0 = 2; status 0 = 1; copy 0 0 0 = 9");
        Run.on("GIVEN to one that writes does nothing", 1, 1, 10, 9).due(
            "read 0 0 = 2; deliver 0 = 0; crash 0 = 0; write 0 0 4 = 2; deliver 0 = 2; status 0 = 2; copy 0 0 0 = -1");
        Run.on("GIVEN once more changes neither result nor copy", 2, 1, 10, 9).due(
            "read 0 0 = 2; retry 0 = 1; deliver 1 = 0; deliver 1 = 2; deliver 0 = 0; tick 10 = 0",
            "write 1 0 5 = 2; deliver 1 = 1; lose 1 = 1; pass 0 9 = 9; deliver 0 = 2; result 0 = 0; copy 0 0 0 = 0");
        Run.on("GIVEN without a lease leaves the old copy alone", 3, 1, 10, 4).due(
            "read 0 0 = 2; deliver 0 = 0; deliver 0 = 2; pass 0 4 = 4; write 1 0 5 = 2; deliver 0 = 1; lose 0 = 1",
            "halt = 1; tick 3 = 0; restart = 1; retry 1 = 1; deliver 0 = 1; read 0 0 = 2; deliver 0 = 0; message 0 6 = 0",
            "deliver 0 = 2; status 0 = 1; copy 0 0 0 = 0; copy 0 0 1 = 0; crash 0 = 1");
        Run.on("GIVEN with a lease takes the old copy's place", 2, 1, 10, 4).due(
            "read 0 0 = 2; deliver 0 = 0; deliver 0 = 2; pass 0 4 = 4; tick 10 = 0; write 1 0 5 = 2; deliver 0 = 1; deliver 0 = 3",
            "read 0 0 = 2; deliver 0 = 0; deliver 0 = 2; copy 0 0 0 = 4; copy 0 0 1 = 5; copy 0 0 2 = 1; result 0 = 5; version 0 = 1");
    }

    private static void stored() {
        Run.on("STORED of an older word does nothing", 1, 1, 10, 9).due(
            "write 0 0 4 = 2; deliver 0 = 1; crash 0 = 0; write 0 0 5 = 2; deliver 0 = 3; status 0 = 2",
            "deliver 0 = 1; deliver 0 = 3; status 0 = 1; result 0 = 2");
        Run.on("STORED to one that reads does nothing", 1, 1, 10, 9).due(
            "write 0 0 4 = 2; deliver 0 = 1; crash 0 = 0; deliver 0 = 3; status 0 = 0",
            "write 0 0 5 = 2; deliver 0 = 1; crash 0 = 0; read 0 0 = 2; deliver 0 = 3; status 0 = 2");
    }

    private static void recalled() {
        Run.on("RECALL takes the copy of that file alone", 2, 2, 10, 9).due(
            "read 0 0 = 2; deliver 0 = 0; deliver 0 = 2; read 0 1 = 2; deliver 0 = 0; deliver 0 = 2",
            "write 1 1 5 = 2; deliver 0 = 1; deliver 0 = 4; copy 0 1 0 = -1; copy 0 0 0 = 9; status 0 = 1; result 0 = 0");
        Run.on("RECALL of another file spoils nothing", 2, 2, 10, 9).due(
            "read 0 0 = 2; deliver 0 = 0; deliver 0 = 2; read 0 1 = 2; write 1 0 5 = 2; deliver 1 = 1; deliver 1 = 4",
            "client 0 1 = 0; deliver 0 = 0; deliver 1 = 2; copy 0 1 0 = 9");
        Run.on("RECALL to one that writes spoils nothing", 2, 1, 10, 9).due(
            "read 0 0 = 2; deliver 0 = 0; deliver 0 = 2; write 1 0 5 = 2; deliver 0 = 1; write 0 0 6 = 2; deliver 0 = 4; client 0 1 = 0; status 0 = 2");
        Run.on("a spoiled read is done, but is no copy", 2, 1, 10, 9).due(
            "read 0 0 = 2; deliver 0 = 0; write 1 0 5 = 2; deliver 1 = 1; deliver 1 = 4; retry 0 = 1",
            "deliver 1 = 5; file 0 1 = 1; deliver 1 = 0; message 2 6 = 1; deliver 2 = 2; status 0 = 1; result 0 = 5; copy 0 0 0 = -1",
            "read 0 0 = 2; client 0 1 = 0; lose 0 = 1; lose 0 = 1; deliver 0 = 0; deliver 0 = 2; copy 0 0 0 = 9");
        Run.on("one that has lost all gives free too", 2, 1, 10, 9).due(
            "read 0 0 = 2; deliver 0 = 0; deliver 0 = 2; write 1 0 5 = 2; deliver 0 = 1; crash 0 = 1; deliver 0 = 4",
            "message 0 0 = 5; deliver 0 = 5; file 0 1 = 1");
        Run.on("the writer is recalled too", 2, 1, 10, 9).due(
            "read 0 0 = 2; deliver 0 = 0; deliver 0 = 2; write 0 0 5 = 2; deliver 0 = 1; message 0 0 = 4; message 0 1 = 0; message 0 4 = 0",
            "file 0 2 = 1; deliver 0 = 4; deliver 0 = 5; file 0 1 = 1");
    }

    private static void asked() {
        Run.on("ASK gets no lease while a write waits for that file", 3, 2, 10, 9).due(
            "read 0 0 = 2; deliver 0 = 0; deliver 0 = 2; write 1 0 5 = 2; deliver 0 = 1; lose 0 = 1",
            "read 2 0 = 2; deliver 0 = 0; message 0 6 = 0; lease 2 0 = 0; deliver 0 = 2; status 2 = 1; result 2 = 0; copy 2 0 0 = -1",
            "read 2 1 = 2; deliver 0 = 0; message 0 6 = 1; lease 2 1 = 10");
        Run.on("a lease that is there stays as it was", 2, 1, 10, 9).due(
            "read 0 0 = 2; retry 0 = 1; deliver 0 = 0; tick 4 = 0; write 1 0 5 = 2; deliver 2 = 1; deliver 0 = 0; lease 0 0 = 6");
        Run.on("ASK gets a lease in the grace", 2, 1, 10, 9).due(
            "halt = 0; restart = 1; read 0 0 = 2; deliver 0 = 0; message 0 6 = 1; lease 0 0 = 10; tick 9 = 0",
            "write 1 0 5 = 2; deliver 1 = 1; message 1 0 = 4; message 1 5 = 1; deliver 1 = 4; deliver 1 = 5; file 0 1 = 0; tick 1 = 1");
    }

    private static void put() {
        Run.on("RECALL goes to those with a lease, by their numbers", 4, 2, 10, 9).due(
            "read 3 0 = 2; deliver 0 = 0; lose 0 = 1; read 1 0 = 2; deliver 0 = 0; lose 0 = 1; read 2 1 = 2; deliver 0 = 0; lose 0 = 1",
            "write 0 0 5 = 2; deliver 0 = 1; pending = 2; message 0 1 = 1; message 1 1 = 3; message 0 0 = 4; message 1 0 = 4; message 0 2 = 0");
        Run.on("a lease that is over is not recalled", 3, 1, 10, 9).due(
            "read 0 0 = 2; deliver 0 = 0; lose 0 = 1; tick 1 = 0; read 1 0 = 2; deliver 0 = 0; lose 0 = 1; tick 9 = 0",
            "write 2 0 5 = 2; deliver 0 = 1; pending = 1; message 0 1 = 1; tick 0 = 0; tick 1 = 1");
        Run.on("only the first one that waits is recalled for", 3, 1, 10, 9).due(
            "read 0 0 = 2; deliver 0 = 0; lose 0 = 1; write 1 0 5 = 2; deliver 0 = 1; pending = 1; write 2 0 6 = 2; deliver 1 = 1",
            "pending = 1; file 0 2 = 2; file 0 3 = 1; retry 2 = 1; deliver 1 = 1; pending = 1; retry 1 = 1; deliver 1 = 1; pending = 2; message 1 4 = 1",
            "deliver 0 = 4; deliver 1 = 5; file 0 0 = 6; file 0 1 = 2; message 1 1 = 1; message 1 4 = 1; message 2 1 = 2; message 2 4 = 2");
    }

    private static void putAgain() {
        Run.on("PUT that waits already waits once", 2, 1, 10, 9).due(
            "read 0 0 = 2; deliver 0 = 0; lose 0 = 1; write 1 0 5 = 2; retry 1 = 1; deliver 0 = 1; deliver 0 = 1; file 0 2 = 1",
            "pending = 2; tick 10 = 1; file 0 1 = 1; tick 10 = 0");
        Run.on("PUT that was stored last gets STORED again, and its own version", 2, 1, 10, 9).due(
            "write 0 0 5 = 2; retry 0 = 1; deliver 0 = 1; lose 1 = 1; write 1 0 6 = 2; deliver 1 = 1; deliver 1 = 3; file 0 1 = 2",
            "deliver 0 = 1; pending = 1; message 0 0 = 3; message 0 1 = 0; message 0 2 = 0; message 0 3 = 1; message 0 4 = 1; message 0 5 = 0; message 0 6 = 0",
            "deliver 0 = 3; result 0 = 1; version 0 = 1; file 0 0 = 6; file 0 1 = 2");
        Run.on("PUT that is older than the last one stored does nothing", 1, 2, 10, 9).due(
            "write 0 0 5 = 2; crash 0 = 0; write 0 1 6 = 2; deliver 1 = 1; deliver 1 = 3; deliver 0 = 1; pending = 0; file 0 1 = 0; file 0 2 = 0");
        Run.on("the same word of another client is another write", 2, 1, 10, 9).due(
            "write 0 0 5 = 2; write 1 0 6 = 2; deliver 0 = 1; deliver 0 = 1; file 0 1 = 2; file 0 0 = 6");
        Run.on("a write that was lost at a halt waits anew", 2, 1, 10, 9).due(
            "read 0 0 = 2; deliver 0 = 0; lose 0 = 1; write 1 0 5 = 2; deliver 0 = 1; lose 0 = 1; halt = 1; restart = 1",
            "retry 1 = 1; deliver 0 = 1; file 0 2 = 1; file 0 3 = 1; pending = 0; tick 10 = 1; file 0 0 = 5; deliver 0 = 3; status 1 = 1");
    }

    private static void lastWrite() {
        Run.on("an older write that is stored later is not the last one", 2, 2, 10, 9).due(
            "read 1 0 = 2; deliver 0 = 0; lose 0 = 1; write 0 0 5 = 2; retry 0 = 1; deliver 0 = 1; lose 1 = 1; crash 0 = 0",
            "write 0 1 6 = 2; retry 0 = 2; deliver 1 = 1; deliver 2 = 3; version 0 = 1; pending = 2; deliver 0 = 1; pending = 1",
            "tick 10 = 1; file 0 0 = 5; file 0 1 = 1; message 1 0 = 3; message 1 3 = 1; message 1 4 = 1; deliver 1 = 3",
            "deliver 0 = 1; message 0 0 = 3; message 0 3 = 2; message 0 4 = 1; file 1 1 = 1");
        Run.on("an older one that waits is not recalled for again", 2, 2, 10, 9).due(
            "read 1 0 = 2; deliver 0 = 0; lose 0 = 1; write 0 0 5 = 2; retry 0 = 1; deliver 0 = 1; lose 1 = 1; crash 0 = 0",
            "write 0 1 6 = 2; deliver 1 = 1; deliver 1 = 3; deliver 0 = 1; pending = 0; file 0 2 = 1; file 0 3 = 0");
    }

    private static void freed() {
        Run.on("FREE of an older epoch does nothing", 2, 1, 10, 9).due(
            "read 0 0 = 2; deliver 0 = 0; deliver 0 = 2; write 1 0 5 = 2; deliver 0 = 1; deliver 0 = 4; message 0 5 = 0",
            "halt = 1; restart = 1; read 0 0 = 2; deliver 1 = 0; deliver 1 = 2; lease 0 0 = 10; retry 1 = 1; deliver 1 = 1; message 1 5 = 1",
            "tick 5 = 0; deliver 0 = 5; lease 0 0 = 5; deliver 0 = 4; deliver 0 = 5; lease 0 0 = 0; file 0 2 = 1; tick 5 = 1");
        Run.on("FREE for a write that is not the first one does nothing", 3, 1, 10, 9).due(
            "read 0 0 = 2; deliver 0 = 0; deliver 0 = 2; write 1 0 5 = 2; deliver 0 = 1; deliver 0 = 4; tick 10 = 1; message 1 0 = 3; deliver 1 = 3",
            "read 0 0 = 2; deliver 1 = 0; deliver 1 = 2; write 1 0 6 = 2; deliver 1 = 1; lose 1 = 1; message 0 3 = 1; deliver 0 = 5; lease 0 0 = 10; file 0 2 = 1");
        Run.on("FREE for another client's write does nothing", 3, 1, 10, 9).due(
            "read 0 0 = 2; deliver 0 = 0; deliver 0 = 2; write 1 0 5 = 2; deliver 0 = 1; deliver 0 = 4; tick 10 = 1; deliver 1 = 3",
            "read 0 0 = 2; deliver 1 = 0; deliver 1 = 2; write 2 0 6 = 2; deliver 1 = 1; lose 1 = 1; deliver 0 = 5; lease 0 0 = 10; file 0 3 = 2");
        Run.on("FREE when no write waits does nothing", 2, 1, 10, 9).due(
            "read 0 0 = 2; deliver 0 = 0; deliver 0 = 2; write 1 0 5 = 2; deliver 0 = 1; deliver 0 = 4; tick 10 = 1; deliver 1 = 3",
            "read 0 0 = 2; deliver 1 = 0; deliver 1 = 2; deliver 0 = 5; lease 0 0 = 10; pending = 0");
        Run.on("FREE ends the lease of the one from which it comes alone", 3, 2, 10, 9).due(
            "read 0 0 = 2; deliver 0 = 0; deliver 0 = 2; read 1 0 = 2; deliver 0 = 0; deliver 0 = 2; read 0 1 = 2; deliver 0 = 0; deliver 0 = 2",
            "tick 3 = 0; write 2 0 5 = 2; deliver 0 = 1; deliver 0 = 4; deliver 1 = 5; lease 0 0 = 0; lease 1 0 = 7; lease 0 1 = 7; file 0 2 = 1",
            "deliver 0 = 4; deliver 0 = 5; file 0 1 = 1; lease 0 1 = 7");
    }

    private static void manyWait() {
        Run.on("as many wait as 512 calls can make wait", 2, 1, 1000, 1000)
            .due("read 1 0 = 2; deliver 0 = 0; lose 0 = 1; write 0 0 9 = 2; deliver 0 = 1; lose 0 = 1; crash 0 = 0")
            .times(165, "write 0 0 8 = 2; deliver 0 = 1; crash 0 = 0")
            .due("file 0 2 = 166; pending = 0; tick 1000 = 166; file 0 1 = 166; file 0 2 = 0; pending = 64")
            .due("message 0 3 = 1; message 63 3 = 64");
    }

    private static void grace() {
        Run.on("all that wait are stored when the grace is over, file by file", 4, 2, 10, 9).due(
            "halt = 0; restart = 1; write 3 1 1 = 2; deliver 0 = 1; write 2 0 2 = 2; deliver 0 = 1; write 1 1 3 = 2; deliver 0 = 1",
            "pending = 0; tick 10 = 3; message 0 1 = 2; message 1 1 = 3; message 2 1 = 1; message 2 4 = 2; file 1 0 = 3");
        Run.on("the grace begins anew", 1, 1, 10, 9).due(
            "halt = 0; restart = 1; tick 9 = 0; halt = 0; restart = 2; write 0 0 1 = 2; deliver 0 = 1; tick 1 = 0; tick 8 = 0; tick 1 = 1");
        Run.on("a lease of the time before a halt can't outlive the grace", 2, 1, 10, 10).due(
            "read 0 0 = 2; deliver 0 = 0; deliver 0 = 2; halt = 0; lease 0 0 = 0; restart = 1; write 1 0 5 = 2; deliver 0 = 1; pending = 0",
            "tick 9 = 0; pass 0 9 = 9; read 0 0 = 1; tick 1 = 1; pass 0 1 = 10; read 0 0 = 2");
    }

    private static void fullPool() {
        Run.on("what is sent to a full pool is lost, what it is about is done", 4, 1, 10, 9)
            .due("read 0 0 = 2; deliver 0 = 0; deliver 0 = 2; read 1 0 = 2; deliver 0 = 0; deliver 0 = 2")
            .due("read 2 0 = 2").times(62, "retry 2 = 1")
            .due("write 3 0 5 = 2; pending = 64; deliver 63 = 1; pending = 64; message 63 0 = 4; message 63 1 = 0; tick 10 = 1")
            .due("file 0 1 = 1; pending = 64; status 3 = 2; message 63 0 = 4; message 62 0 = 0");
        Run.on("a write that is lost on its way waits all the same", 2, 1, 10, 9)
            .due("read 0 0 = 2").times(64, "retry 0 = 1")
            .due("write 1 0 5 = 2; status 1 = 2; pending = 64; lose 0 = 1; retry 1 = 1; message 63 0 = 1; deliver 63 = 1; file 0 0 = 5");
    }
}
