/** Promises 12 (carry), 13 (carryAll), 14 (drop), 15 (messages) and 16 (message). */
public final class NetTest {
    private static final Check CHECK = new Check("NetTest");

    public static void main(String[] args) {
        carrying();
        carryingAll();
        dropping();
        lookingAtMessages();
        atMost300();
        carryingOffAFullNet();
        carryingAllOfAFullNet();
        CHECK.end();
    }

    private static void carrying() {
        Run.of(CHECK, "carry", new LeasePair(4, 10, 0),
                "carry(0) = illegal; ask(1, 0, 0, 0, 5); carry(1) = illegal; carry(-1) = illegal; carry(0) = true",
                "messages() = 2; message(0) = 0 0 1 0 -1 1 5; message(1) = 1 1 0 1 0 1 5; carry(1) = true",
                "messages() = 2; client(1, 0) = 0; carry(1) = true; carry(0) = true; record(0, 0, 4) = 2",
                "messages() = 3");
        Run.of(CHECK, "who hears", new LeasePair(2, 10, 0),
                "give(0, 1); send(0); kill(1); carry(0) = false; messages() = 1; start(1); carry(0) = true",
                "carry(1) = true; kill(0); carry(1) = false; carry(2) = false; start(0); carry(2) = true",
                "server(0, 0) = 1; carry(1) = true");
        Run.of(CHECK, "heard by one that dies of it", new LeasePair(2, 10, 0),
                "fuse(0, 1); ask(1, 0, 0, 0, 5); carry(0) = true; server(0, 0) = 0; carry(0) = false");
        Run.of(CHECK, "heard by one that does nothing", new LeasePair(2, 10, 0),
                "ask(1, 2, 0, 0, 5); carry(0) = true; messages() = 1; server(0, 8) = 0");
    }

    private static void carryingAll() {
        Run.of(CHECK, "carryAll", new LeasePair(4, 10, 0),
                "carryAll() = 0; ask(1, 0, 0, 0, 5); ask(2, 0, 0, 0, 6); ask(3, 0, 1, 0, 7); carryAll() = 3",
                "messages() = 3; message(0) = 1 1 0 1 0 1 5; message(1) = 1 2 0 1 2 1 6; message(2) = 1 3 1 1 1 1 7",
                "client(1, 0) = -1; carryAll() = 3; messages() = 0; client(1) = 0 5 1; client(2) = 2 6 1",
                "client(3) = 1 7 1");
        Run.of(CHECK, "what nobody hears is gone too", new LeasePair(2, 10, 0),
                "ask(1, 0, 0, 0, 5); kill(0); carryAll() = 1; messages() = 0; server(0, 8) = 0");
    }

    private static void dropping() {
        Run.of(CHECK, "drop", new LeasePair(4, 10, 0),
                "drop(0) = illegal; ask(1, 0, 0, 0, 5); ask(2, 0, 0, 0, 6); ask(3, 0, 0, 0, 7); ask(4, 0, 0, 0, 8)",
                "drop(4) = illegal; drop(-1) = illegal; drop(1) = 3; message(0, 2) = 1; message(1, 2) = 3",
                "message(2, 2) = 4; drop(2) = 2; message(1, 2) = 3; ask(5, 0, 0, 0, 9); message(2) = 0 0 5 0 -1 1 9",
                "drop(0) = 2; message(0, 2) = 3; message(1, 2) = 5; carryAll() = 2; client(2, 2) = 1; drop(0) = 1",
                "carryAll() = 1; client(5, 0) = 2; client(3, 0) = -1; messages() = 0");
    }

    private static void lookingAtMessages() {
        Run.of(CHECK, "message", new LeasePair(4, 10, 0),
                "message(0, 0) = illegal; ask(7, 0, 0, 3, 5); ask(7, 1, 1, 3, 6); ask(7, 2, 0, 2, 7)",
                "message(0) = 0 0 7 0 -1 1 5; message(1) = 0 1 7 1 3 2 6; message(2) = 0 0 7 2 2 3 0",
                "message(0, -1) = illegal; message(0, 7) = illegal; message(3, 0) = illegal; message(-1, 0) = illegal",
                "carryAll() = 3; message(0) = 1 7 0 1 0 1 5; message(1) = 1 7 1 0 -1 2 0; messages() = 2",
                "drop(0); drop(0); seconds(2); send(0); message(0) = 3 1 0 2 0 1 5; carryAll(); messages() = 1",
                "message(0) = 4 0 1 0 0 1 5; carryAll(); seconds(3); tidy(0) = 1; send(0)",
                "message(0) = 3 1 0 3 0 2 5; carryAll(); message(0) = 4 0 1 0 0 2 0; drop(0)",
                "give(1, 1); send(1); message(0) = 3 0 1 4 1 1 0; drop(0); kill(1); start(1)",
                "message(0) = 2 0 1 0 -1 2 0; carryAll(); messages() = 4; message(0) = 3 1 0 3 0 2 5",
                "message(1) = 3 1 0 0 1 0 0; message(2) = 3 1 0 1 2 0 0; message(3) = 3 1 0 0 3 0 0");
    }

    /** 12 requests, then 18 times the UPDATEs of 16 addresses. */
    private static LeasePair full() {
        LeasePair pair = new LeasePair(32, 10, 0);
        pair.give(0, 32);
        for (int i = 0; i < 12; i++) {
            pair.ask(i, 0, 1, 0, i + 1);
        }
        for (int i = 0; i < 18; i++) {
            pair.send(0);
        }
        return pair;
    }

    private static void atMost300() {
        Run.of(CHECK, "300", full(),
                "messages() = 300; message(0, 2) = 0; message(299, 4) = 30; message(300, 0) = illegal",
                "ask(15, 0, 0, 0, 9) = 1; messages() = 300; message(0, 2) = 1; message(299) = 0 0 15 0 -1 1 9",
                "message(298, 4) = 30; send(0) = 16; messages() = 300; message(0) = 3 1 0 4 10 1 0",
                "message(283) = 0 0 15 0 -1 1 9; message(299, 4) = 30; drop(300) = illegal; drop(299) = 299",
                "messages() = 299; message(298, 4) = 28; drop(0) = 298; message(0, 4) = 12",
                "ask(15, 0, 0, 0, 9) = 2; messages() = 299; message(0, 4) = 12; message(298, 5) = 2",
                "ask(15, 0, 0, 0, 9) = 3; message(0, 4) = 12; ask(15, 0, 0, 0, 9) = 4; message(0, 4) = 14",
                "messages() = 300; carryAll() = 300");
    }

    private static void carryingOffAFullNet() {
        // What is carried is pushed off by what is sent meanwhile, and heard as it was.
        Run.of(CHECK, "a request off a full net", full(),
                "carry(0) = true; messages() = 300; message(299) = 1 0 1 1 1 1 1; message(0, 2) = 1",
                "carry(0) = true; message(299) = 1 1 1 1 3 1 2; record(1, 3, 1) = 1");
        LeasePair hello = new LeasePair(32, 10, 0);
        hello.kill(1);
        hello.start(1);
        hello.give(0, 32);
        for (int i = 0; i < 18; i++) {
            hello.send(0);
        }
        for (int i = 0; i < 11; i++) {
            hello.ask(i, 0, 0, 0, 1);
        }
        Run.of(CHECK, "a HELLO off a full net", hello,
                "messages() = 300; message(0) = 2 0 1 0 -1 2 0; carry(0) = true; messages() = 300",
                "message(0) = 3 1 0 4 30 1 0; message(1, 4) = 0; message(268) = 3 1 0 4 0 1 0",
                "message(269) = 3 1 0 0 1 0 0; message(299) = 3 1 0 0 31 0 0; server(0, 3) = 2");
    }

    private static void carryingAllOfAFullNet() {
        LeasePair pair = new LeasePair(32, 10, 0);
        pair.kill(1);
        pair.start(1);
        for (int i = 0; i < 19; i++) {
            pair.send(1);
        }
        Run.of(CHECK, "20 HELLOs, 640 UPDATEs", pair,
                "messages() = 20; carryAll() = 20; messages() = 300; message(0, 4) = 20; message(299, 4) = 31",
                "message(11, 4) = 31; message(12, 4) = 0; carryAll() = 300; messages() = 300; server(1, 0) = 2",
                "message(0) = 4 0 1 0 20 0 0; carryAll() = 300; messages() = 0");
    }
}
