/** Each promise by itself: ordinary inputs, the edges that the document names, and wrong inputs. */
public final class PromisesTest {
    private static final String MOST = String.valueOf(Integer.MAX_VALUE);
    private static final String LEAST = String.valueOf(Integer.MIN_VALUE);

    public static void main(String[] args) {
        newObject1();
        read2();
        write3();
        retry4();
        status5();
        result6();
        version7();
        deliver8();
        lose9();
        pending10();
        message11();
        tick12();
        pass13();
        crash14();
        halt15();
        restart16();
        copy17();
        lease18();
        file19();
        server20();
        client21();
        Run.end();
    }

    private static void newObject1() {
        Run.on("1: too little of everything is one of each", Integer.MIN_VALUE, Integer.MIN_VALUE, Integer.MIN_VALUE, Integer.MIN_VALUE).due(
            "status 0 = 0; status 1 = -1; file 0 0 = 0; file 1 0 = -1",
            "read 0 0 = 2; deliver 0 = 0; lease 0 0 = 1; deliver 0 = 2; copy 0 0 0 = 1");
        Run.on("1: 0 of everything is one of each", 0, 0, 0, 0).due(
            "status 0 = 0; status 1 = -1; file 0 0 = 0; file 1 0 = -1",
            "read 0 0 = 2; deliver 0 = 0; lease 0 0 = 1; deliver 0 = 2; copy 0 0 0 = 1");
        Run.on("1: too much of everything", Integer.MAX_VALUE, Integer.MAX_VALUE, Integer.MAX_VALUE, Integer.MAX_VALUE).due(
            "status 3 = 0; status 4 = -1; file 3 0 = 0; file 4 0 = -1",
            "read 3 3 = 2; deliver 0 = 0; lease 3 3 = 1000; deliver 0 = 2; copy 3 3 0 = 1000");
        Run.on("1: one more than the most", 5, 5, 1001, 1001).due(
            "status 3 = 0; status 4 = -1; file 3 0 = 0; file 4 0 = -1",
            "read 3 3 = 2; deliver 0 = 0; lease 3 3 = 1000; deliver 0 = 2; copy 3 3 0 = 1000");
        Run.on("1: as told", 2, 3, 1000, 999).due(
            "status 1 = 0; status 2 = -1; file 2 0 = 0; file 3 0 = -1",
            "read 1 2 = 2; deliver 0 = 0; lease 1 2 = 1000; deliver 0 = 2; copy 1 2 0 = 999");
        Run.on("1: the shorter time is at most the term", 1, 1, 6, 7).due(
            "read 0 0 = 2; deliver 0 = 0; lease 0 0 = 6; deliver 0 = 2; copy 0 0 0 = 6");
        Run.on("1: all begins at 0", 1, 1, 5, 5).due(
            "server 0 = 0; server 1 = 1; server 2 = 0; server 3 = 0; pending = 0",
            "file 0 0 = 0; file 0 1 = 0; file 0 2 = 0; file 0 3 = -1; lease 0 0 = 0",
            "client 0 0 = 0; client 0 1 = 0; client 0 2 = 0; status 0 = 0; copy 0 0 0 = -1");
    }

    private static void read2() {
        Run.on("2: asks, and is done at once while the copy is good", 2, 2, 10, 4).due(
            "read 1 1 = 2; pending = 1",
            "message 0 0 = 0; message 0 1 = 1; message 0 2 = 1; message 0 3 = 1",
            "message 0 4 = 0; message 0 5 = 0; message 0 6 = 0",
            "deliver 0 = 0; deliver 0 = 2; pass 1 3 = 3",
            "read 1 1 = 1; pending = 0; status 1 = 1; client 1 0 = 2",
            "read 1 0 = 2; lose 0 = 1; crash 1 = 1");
        Run.on("2: a lease that is over just now is over", 1, 1, 10, 4).due(
            "read 0 0 = 2; deliver 0 = 0; deliver 0 = 2; pass 0 4 = 4",
            "read 0 0 = 2; pending = 1; copy 0 0 0 = 0; client 0 0 = 2");
        Run.on("2: nothing is done when it waits already", 2, 2, 10, 4).due(
            "read 0 0 = 2; read 0 0 = 0; read 0 1 = 0; pending = 1; client 0 0 = 1",
            "write 1 0 5 = 2; read 1 0 = 0; pending = 2; client 1 0 = 1");
        Run.on("2: no such client or file", 2, 2, 10, 4).due(
            "read 2 0 = -1; read -1 0 = -1; read 0 2 = -1; read 0 -1 = -1; read 2 2 = -1",
            "read " + MOST + " 0 = -1; read " + LEAST + " 0 = -1; read 0 " + MOST + " = -1; read 0 " + LEAST + " = -1",
            "pending = 0; client 0 0 = 0; client 1 0 = 0; status 0 = 0",
            "read 0 0 = 2; read 0 2 = -1");
        Run.on("2: a read done at once is of that file", 1, 2, 10, 9).due(
            "write 0 1 6 = 2; deliver 0 = 1; deliver 0 = 3",
            "read 0 1 = 2; deliver 0 = 0; deliver 0 = 2; read 0 0 = 2; deliver 0 = 0; deliver 0 = 2",
            "result 0 = 0; version 0 = 0; read 0 1 = 1; result 0 = 6; version 0 = 1");
    }

    private static void write3() {
        Run.on("3: puts, and its own copy is gone", 2, 2, 10, 9).due(
            "read 1 0 = 2; deliver 0 = 0; deliver 0 = 2; read 1 1 = 2; deliver 0 = 0; deliver 0 = 2",
            "write 1 1 -8 = 2; status 1 = 2; client 1 0 = 3; pending = 1",
            "message 0 0 = 1; message 0 1 = 1; message 0 2 = 1; message 0 3 = 3",
            "message 0 4 = -8; message 0 5 = 0; message 0 6 = 0",
            "copy 1 1 1 = -1; copy 1 0 1 = 0");
        Run.on("3: nothing is done when it waits already", 1, 2, 10, 9).due(
            "read 0 1 = 2; deliver 0 = 0; deliver 0 = 2; read 0 0 = 2",
            "write 0 1 5 = 0; copy 0 1 0 = 9; pending = 1; client 0 0 = 2; client 0 1 = 0",
            "retry 0 = 2; message 1 0 = 0; crash 0 = 1",
            "write 0 0 5 = 2; write 0 0 6 = 0; retry 0 = 3; message 3 4 = 5");
        Run.on("3: no such client or file", 2, 2, 10, 9).due(
            "write 2 0 1 = -1; write -1 0 1 = -1; write 0 2 1 = -1; write 0 -1 1 = -1",
            "write " + MOST + " 0 1 = -1; write 0 " + LEAST + " 1 = -1",
            "pending = 0; client 0 0 = 0; status 0 = 0",
            "write 0 0 1 = 2; write 0 2 1 = -1");
        Run.on("3: any value", 1, 1, 10, 9).due(
            "write 0 0 " + LEAST + " = 2; deliver 0 = 1; file 0 0 = " + LEAST + "; deliver 0 = 3",
            "write 0 0 " + MOST + " = 2; deliver 0 = 1; file 0 0 = " + MOST + "; deliver 0 = 3");
    }

    private static void retry4() {
        Run.on("4: sends the same again", 2, 2, 10, 9).due(
            "retry 0 = 0; pending = 0",
            "write 0 1 7 = 2; retry 0 = 1; retry 0 = 1; pending = 3",
            "message 2 0 = 1; message 2 1 = 0; message 2 2 = 1; message 2 3 = 1; message 2 4 = 7; client 0 0 = 1",
            "deliver 0 = 1; deliver 2 = 3; status 0 = 1; retry 0 = 0; pending = 2",
            "lose 0 = 1; lose 0 = 1; read 0 1 = 2; retry 0 = 2; pending = 2",
            "message 1 0 = 0; message 1 1 = 0; message 1 2 = 1; message 1 3 = 2; message 1 4 = 0",
            "crash 0 = 0; retry 0 = 0; pending = 2");
        Run.on("4: a read began when it began first", 1, 1, 10, 9).due(
            "read 0 0 = 2; pass 0 4 = 4; retry 0 = 1; deliver 1 = 0; deliver 1 = 2; copy 0 0 0 = 5");
        Run.on("4: no such client", 2, 2, 10, 9).due(
            "retry 2 = -1; retry -1 = -1; retry " + MOST + " = -1; retry " + LEAST + " = -1; pending = 0");
    }

    private static void status5() {
        Run.on("5: idle, waiting, done", 2, 1, 10, 9).due(
            "status 0 = 0; read 0 0 = 2; status 0 = 2; status 1 = 0; deliver 0 = 0; status 0 = 2",
            "deliver 0 = 2; status 0 = 1; read 0 0 = 1; status 0 = 1; write 0 0 1 = 2; status 0 = 2",
            "crash 0 = 0; status 0 = 0");
        Run.on("5: no such client", 2, 1, 10, 9).due(
            "status 2 = -1; status -1 = -1; status " + MOST + " = -1; status " + LEAST + " = -1");
    }

    private static void result6() {
        Run.on("6: of a write and of a read", 2, 1, 10, 9).due(
            "result 0 = 0; write 0 0 40 = 2; result 0 = 0; deliver 0 = 1; result 0 = 0; deliver 0 = 3; result 0 = 1",
            "write 0 0 50 = 2; result 0 = 0; deliver 0 = 1; deliver 0 = 3; result 0 = 2",
            "read 1 0 = 2; result 1 = 0; deliver 0 = 0; deliver 0 = 2; result 1 = 50; result 0 = 2",
            "crash 1 = 1; result 1 = 0");
        Run.on("6: no such client", 2, 1, 10, 9).due(
            "result 2 = 0; result -1 = 0; result " + MOST + " = 0; result " + LEAST + " = 0");
    }

    private static void version7() {
        Run.on("7: of a write and of a read", 2, 1, 10, 9).due(
            "version 0 = -1; write 0 0 40 = 2; version 0 = -1; deliver 0 = 1; deliver 0 = 3; version 0 = 1",
            "write 0 0 50 = 2; version 0 = -1; deliver 0 = 1; deliver 0 = 3; version 0 = 2",
            "read 1 0 = 2; version 1 = -1; deliver 0 = 0; deliver 0 = 2; version 1 = 2",
            "crash 1 = 1; version 1 = -1");
        Run.on("7: no such client", 2, 1, 10, 9).due(
            "version 2 = -1; version -1 = -1; version " + MOST + " = -1; version " + LEAST + " = -1");
    }

    private static void deliver8() {
        Run.on("8: any message may come, those behind it are one less", 4, 1, 10, 9).due(
            "read 0 0 = 2; read 1 0 = 2; read 2 0 = 2; deliver 1 = 0; pending = 3",
            "message 0 1 = 0; message 1 1 = 2; message 2 0 = 2; message 2 1 = 1; deliver 2 = 2",
            "status 0 = 2; status 1 = 1; status 2 = 2; message 0 1 = 0; message 1 1 = 2; pending = 2");
        Run.on("8: each kind", 2, 1, 10, 9).due(
            "read 0 0 = 2; deliver 0 = 0; deliver 0 = 2; write 1 0 3 = 2; deliver 0 = 1",
            "deliver 0 = 4; deliver 0 = 5; deliver 0 = 3; pending = 0");
        Run.on("8: 9 when the server is down, and the message is lost", 2, 1, 10, 9).due(
            "read 0 0 = 2; deliver 0 = 0; deliver 0 = 2; write 1 0 3 = 2; deliver 0 = 1; deliver 0 = 4",
            "retry 1 = 1; crash 1 = 0; read 1 0 = 2; halt = 1; pending = 3",
            "deliver 0 = 9; deliver 0 = 9; deliver 0 = 9; pending = 0; file 0 1 = 0; lease 1 0 = 0");
        Run.on("8: what goes to a client comes while the server is down", 2, 1, 10, 9).due(
            "read 0 0 = 2; deliver 0 = 0; write 1 0 3 = 2; deliver 1 = 1; halt = 1",
            "deliver 1 = 4; message 1 0 = 5; deliver 0 = 2; status 0 = 1; deliver 0 = 9");
        Run.on("8: no such message", 1, 1, 10, 9).due(
            "deliver 0 = -1; read 0 0 = 2; deliver 1 = -1; deliver -1 = -1; deliver 64 = -1",
            "deliver " + MOST + " = -1; deliver " + LEAST + " = -1; pending = 1");
        Run.on("8: it makes room for its own answer", 1, 1, 10, 9).due("read 0 0 = 2").times(63, "retry 0 = 1").due(
            "pending = 64; deliver 63 = 0; pending = 64; message 63 0 = 2; message 62 0 = 0; deliver 0 = 0; message 63 0 = 2");
    }

    private static void lose9() {
        Run.on("9: is gone and does nothing", 3, 1, 10, 9).due(
            "read 0 0 = 2; read 1 0 = 2; read 2 0 = 2; lose 1 = 1; pending = 2",
            "message 0 1 = 0; message 1 1 = 2; lease 1 0 = 0; status 1 = 2",
            "lose 1 = 1; lose 0 = 1; lose 0 = 0; pending = 0");
        Run.on("9: no such message", 1, 1, 10, 9).due(
            "lose 0 = 0; read 0 0 = 2; lose 1 = 0; lose -1 = 0; lose 64 = 0",
            "lose " + MOST + " = 0; lose " + LEAST + " = 0; pending = 1");
    }

    private static void pending10() {
        Run.on("10: how many, at most 64", 2, 1, 10, 9).due("pending = 0; read 0 0 = 2; pending = 1")
            .times(62, "retry 0 = 1").due("pending = 63; retry 0 = 1; pending = 64; retry 0 = 1; pending = 64")
            .due("read 1 0 = 2; status 1 = 2; pending = 64; message 63 1 = 0; lose 0 = 1; pending = 63")
            .due("retry 1 = 1; pending = 64; message 63 1 = 1; message 64 1 = -1");
    }

    private static void message11() {
        Run.on("11: all of a message", 4, 3, 10, 9).due(
            "read 3 2 = 2; deliver 0 = 0; deliver 0 = 2; halt = 0; restart = 1; tick 10 = 0",
            "write 1 2 70 = 2; deliver 0 = 1",
            "message 0 0 = 3; message 0 1 = 1; message 0 2 = 2; message 0 3 = 1; message 0 4 = 1; message 0 5 = 0; message 0 6 = 0",
            "deliver 0 = 3; write 1 2 80 = 2; deliver 0 = 1; deliver 0 = 3; crash 3 = 1; read 3 2 = 2; deliver 0 = 0",
            "message 0 0 = 2; message 0 1 = 3; message 0 2 = 2; message 0 3 = 2; message 0 4 = 80; message 0 5 = 2; message 0 6 = 1",
            "deliver 0 = 2; write 1 2 90 = 2; deliver 0 = 1",
            "message 0 0 = 4; message 0 1 = 3; message 0 2 = 2; message 0 3 = 3; message 0 4 = 1; message 0 5 = 1; message 0 6 = 0",
            "deliver 0 = 4",
            "message 0 0 = 5; message 0 1 = 3; message 0 2 = 2; message 0 3 = 3; message 0 4 = 1; message 0 5 = 1; message 0 6 = 0");
        Run.on("11: none such, or another what", 1, 1, 10, 9).due(
            "message 0 0 = -1; read 0 0 = 2; message 0 7 = -1; message 0 -1 = -1; message 1 0 = -1; message -1 0 = -1",
            "message 0 " + MOST + " = -1; message 0 " + LEAST + " = -1",
            "message " + MOST + " 0 = -1; message " + LEAST + " 0 = -1; message 64 0 = -1");
    }

    private static void tick12() {
        Run.on("12: how many writes were stored", 4, 2, 10, 9).due(
            "read 0 0 = 2; deliver 0 = 0; lose 0 = 1; read 1 1 = 2; deliver 0 = 0; lose 0 = 1",
            "write 2 0 5 = 2; deliver 0 = 1; lose 0 = 1; write 3 0 6 = 2; deliver 0 = 1",
            "crash 0 = 0; write 0 1 7 = 2; deliver 0 = 1; lose 0 = 1; pending = 0",
            "tick 0 = 0; tick 9 = 0; file 0 2 = 2; file 1 2 = 1; tick 1 = 3; file 0 2 = 0; file 1 2 = 0",
            "file 0 0 = 6; file 0 1 = 2; file 1 0 = 7; file 1 1 = 1; pending = 3",
            "message 0 1 = 2; message 1 1 = 3; message 2 1 = 0; tick 1000 = 0; server 0 = 1010");
        Run.on("12: the clock goes on while it is down", 1, 1, 10, 9).due(
            "tick 3 = 0; halt = 0; tick 4 = 0; server 0 = 7; restart = 1; server 3 = 10; tick 5 = 0; server 0 = 12; server 3 = 5");
        Run.on("12: not 0 .. 1000", 1, 1, 10, 9).due(
            "tick 1000 = 0; tick 0 = 0; tick 1001 = -1; tick -1 = -1; tick " + MOST + " = -1; tick " + LEAST + " = -1; server 0 = 1000");
        Run.on("12: only the server's clock", 2, 1, 10, 9).due("tick 4 = 0; client 0 2 = 0; client 1 2 = 0");
    }

    private static void pass13() {
        Run.on("13: what the clock is then", 2, 1, 10, 9).due(
            "pass 0 0 = 0; pass 0 1000 = 1000; pass 0 5 = 1005; client 0 2 = 1005; client 1 2 = 0; server 0 = 0; pass 1 2 = 2");
        Run.on("13: no such client, or not 0 .. 1000", 2, 1, 10, 9).due(
            "pass 2 1 = -1; pass -1 1 = -1; pass " + MOST + " 1 = -1; pass " + LEAST + " 1 = -1",
            "pass 0 1001 = -1; pass 0 -1 = -1; pass 0 " + MOST + " = -1; pass 0 " + LEAST + " = -1; client 0 2 = 0");
    }

    private static void crash14() {
        Run.on("14: copies and operation are lost, number and clock are not", 2, 3, 10, 4).due(
            "read 0 0 = 2; deliver 0 = 0; deliver 0 = 2; pass 0 4 = 4; read 0 2 = 2; deliver 0 = 0; deliver 0 = 2",
            "copy 0 0 0 = 0; copy 0 2 0 = 4; read 0 1 = 2; crash 0 = 2; status 0 = 0; result 0 = 0; version 0 = -1",
            "copy 0 0 1 = -1; copy 0 2 1 = -1; client 0 0 = 3; client 0 2 = 4; crash 0 = 0; lease 0 0 = 10",
            "deliver 0 = 0; deliver 0 = 2; status 0 = 0; copy 0 1 0 = -1; read 0 2 = 2; client 0 0 = 4");
        Run.on("14: a spoiled read is lost too", 2, 1, 10, 9).due(
            "read 0 0 = 2; deliver 0 = 0; write 1 0 5 = 2; deliver 1 = 1; deliver 1 = 4; client 0 1 = 1",
            "crash 0 = 0; client 0 1 = 0; read 0 0 = 2; client 0 1 = 0; status 1 = 2");
        Run.on("14: no such client", 2, 1, 10, 9).due(
            "crash 2 = -1; crash -1 = -1; crash " + MOST + " = -1; crash " + LEAST + " = -1");
    }

    private static void halt15() {
        Run.on("15: how many writes waited", 3, 2, 10, 9).due(
            "read 0 0 = 2; deliver 0 = 0; deliver 0 = 2; read 0 1 = 2; deliver 0 = 0; deliver 0 = 2",
            "write 0 0 1 = 2; deliver 0 = 1; write 1 0 2 = 2; deliver 1 = 1; write 2 1 3 = 2; deliver 1 = 1",
            "file 0 2 = 2; file 1 2 = 1; halt = 3; file 0 2 = 0; file 1 2 = 0; file 0 3 = -1; lease 0 0 = 0; lease 0 1 = 0",
            "server 1 = 0; halt = -1; tick 20 = 0; file 0 1 = 0; file 1 1 = 0; restart = 1; tick 20 = 0; file 0 1 = 0; halt = 0");
        Run.on("15: files and last writes are not lost", 1, 1, 10, 9).due(
            "write 0 0 4 = 2; retry 0 = 1; deliver 0 = 1; halt = 0; file 0 0 = 4; file 0 1 = 1; restart = 1; pending = 2",
            "deliver 0 = 1; file 0 2 = 0; message 1 0 = 3; message 1 3 = 1; message 1 4 = 1; file 0 1 = 1");
    }

    private static void restart16() {
        Run.on("16: its epoch then, and a grace of a term", 1, 1, 10, 9).due(
            "restart = -1; server 2 = 0; halt = 0; server 2 = 0; restart = 1; server 1 = 1; server 3 = 10; restart = -1",
            "server 2 = 1; tick 4 = 0; server 3 = 6; halt = 0; restart = 2; server 3 = 10; server 2 = 2");
        Run.on("16: a write waits until the grace is over", 2, 2, 10, 9).due(
            "halt = 0; restart = 1; write 0 1 8 = 2; deliver 0 = 1; file 1 2 = 1; pending = 0; tick 9 = 0; file 1 1 = 0",
            "tick 1 = 1; file 1 1 = 1; deliver 0 = 3; write 0 1 9 = 2; deliver 0 = 1; file 1 1 = 2");
    }

    private static void copy17() {
        Run.on("17: its time, value and version", 2, 2, 10, 6).due(
            "write 1 1 -5 = 2; deliver 0 = 1; deliver 0 = 3; pass 0 7 = 7; read 0 1 = 2; pass 0 2 = 9; deliver 0 = 0; deliver 0 = 2",
            "copy 0 1 0 = 4; copy 0 1 1 = -5; copy 0 1 2 = 1; pass 0 3 = 12; copy 0 1 0 = 1; pass 0 1 = 13; copy 0 1 0 = 0",
            "pass 0 9 = 22; copy 0 1 0 = 0; copy 0 1 1 = -5; copy 0 1 2 = 1; copy 0 0 1 = -1; copy 1 1 1 = -1");
        Run.on("17: it may be over when it comes", 1, 1, 10, 6).due(
            "read 0 0 = 2; deliver 0 = 0; pass 0 6 = 6; deliver 0 = 2; status 0 = 1; copy 0 0 0 = 0; copy 0 0 1 = 0; read 0 0 = 2");
        Run.on("17: none, or another what", 2, 2, 10, 6).due(
            "copy 0 0 0 = -1; read 0 0 = 2; deliver 0 = 0; deliver 0 = 2; copy 0 0 0 = 6; copy 0 0 3 = -1; copy 0 0 -1 = -1",
            "copy 0 0 " + MOST + " = -1; copy 0 0 " + LEAST + " = -1; copy 2 0 0 = -1; copy -1 0 0 = -1; copy 0 2 0 = -1; copy 0 -1 0 = -1",
            "copy " + MOST + " 0 0 = -1; copy " + LEAST + " 0 0 = -1; copy 0 " + MOST + " 0 = -1; copy 0 " + LEAST + " 0 = -1");
    }

    private static void lease18() {
        Run.on("18: by the server's clock", 2, 2, 10, 6).due(
            "lease 1 1 = 0; tick 5 = 0; read 1 1 = 2; deliver 0 = 0; lease 1 1 = 10; lease 0 1 = 0; lease 1 0 = 0; pass 1 9 = 9; lease 1 1 = 10",
            "tick 9 = 0; lease 1 1 = 1; tick 1 = 0; lease 1 1 = 0; tick 1 = 0; lease 1 1 = 0");
        Run.on("18: another ask makes it longer", 1, 1, 10, 6).due(
            "read 0 0 = 2; retry 0 = 1; deliver 0 = 0; tick 4 = 0; lease 0 0 = 6; deliver 0 = 0; lease 0 0 = 10");
        Run.on("18: no such client or file", 2, 2, 10, 6).due(
            "lease 2 0 = -1; lease -1 0 = -1; lease 0 2 = -1; lease 0 -1 = -1",
            "lease " + MOST + " 0 = -1; lease " + LEAST + " 0 = -1; lease 0 " + MOST + " = -1; lease 0 " + LEAST + " = -1");
    }

    private static void file19() {
        Run.on("19: value, version, waiting writes, and whose the first is", 4, 3, 10, 6).due(
            "file 2 3 = -1; read 0 2 = 2; deliver 0 = 0; lose 0 = 1",
            "write 3 2 30 = 2; deliver 0 = 1; write 1 2 10 = 2; deliver 1 = 1; file 2 0 = 0; file 2 1 = 0; file 2 2 = 2; file 2 3 = 3",
            "file 1 2 = 0; file 1 3 = -1; tick 10 = 2; file 2 0 = 10; file 2 1 = 2; file 2 2 = 0; file 2 3 = -1; file 1 1 = 0");
        Run.on("19: no such file, or another what", 2, 2, 10, 6).due(
            "file 2 0 = -1; file -1 0 = -1; file " + MOST + " 0 = -1; file " + LEAST + " 0 = -1",
            "file 0 4 = -1; file 0 -1 = -1; file 0 " + MOST + " = -1; file 0 " + LEAST + " = -1");
    }

    private static void server20() {
        Run.on("20: clock, up, epoch, grace", 1, 1, 10, 6).due(
            "server 0 = 0; server 1 = 1; server 2 = 0; server 3 = 0; tick 2 = 0; halt = 0; server 1 = 0; server 3 = 0; tick 3 = 0",
            "server 0 = 5; restart = 1; server 1 = 1; server 2 = 1; server 3 = 10; pass 0 4 = 4; server 3 = 10",
            "tick 9 = 0; server 3 = 1; tick 1 = 0; server 3 = 0; tick 1 = 0; server 3 = 0; server 0 = 16");
        Run.on("20: the grace goes on while it is down", 1, 1, 10, 6).due(
            "halt = 0; restart = 1; tick 3 = 0; halt = 0; server 3 = 7; tick 2 = 0; server 3 = 5; restart = 2; server 3 = 10");
        Run.on("20: another what", 1, 1, 10, 6).due(
            "server 4 = -1; server -1 = -1; server " + MOST + " = -1; server " + LEAST + " = -1");
    }

    private static void client21() {
        Run.on("21: number, spoiled, clock", 3, 2, 10, 6).due(
            "client 0 0 = 0; client 0 1 = 0; pass 0 3 = 3; client 0 2 = 3; client 0 7 = 3; client 0 -1 = 3; client 0 " + LEAST + " = 3",
            "read 0 1 = 2; client 0 0 = 1; client 0 1 = 0; client 1 0 = 0; deliver 0 = 0",
            "write 1 1 5 = 2; deliver 1 = 1; deliver 1 = 4; client 0 1 = 1; client 1 1 = 0; client 0 0 = 1",
            "retry 0 = 1; client 0 1 = 1; deliver 0 = 2; status 0 = 1; client 0 1 = 0; copy 0 1 0 = -1");
        Run.on("21: no such client", 2, 1, 10, 6).due(
            "client 2 0 = -1; client -1 0 = -1; client 2 9 = -1; client " + MOST + " 1 = -1; client " + LEAST + " 2 = -1");
    }
}
