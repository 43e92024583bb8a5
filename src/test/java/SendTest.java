/** Promise 9 (send). */
public final class SendTest {
    private static final Check CHECK = new Check("SendTest");

    public static void main(String[] args) {
        Run.of(CHECK, "nothing is pending", new LeasePair(4, 10, 0), "send(0) = 0; send(1) = 0; messages() = 0");
        Run.of(CHECK, "what is pending, from the least address on", new LeasePair(6, 10, 0),
                "give(0, 2) = 2; ask(1, 0, 0, 0, 7); carryAll(); drop(0); send(0) = 3; messages() = 3",
                "message(0) = 3 1 0 4 0 1 0; message(1) = 3 1 0 4 2 1 0; message(2) = 3 1 0 2 4 1 7",
                "send(0) = 3; messages() = 6; send(1) = 0; server(0, 8) = 2");
        Run.of(CHECK, "what is acknowledged is not pending", new LeasePair(6, 10, 0),
                "give(0, 2) = 2; send(0) = 2; carryAll() = 2; drop(0) = 1; carryAll() = 1; send(0) = 1",
                "message(0) = 3 1 0 4 0 1 0");
        Run.of(CHECK, "a dead one", new LeasePair(4, 10, 0),
                "give(0, 2) = 2; kill(0); send(0) = -1; messages() = 0");
        Run.of(CHECK, "a recovering one", new LeasePair(4, 10, 0),
                "give(0, 1) = 1; kill(0); start(0); send(0) = 2; messages() = 3; message(1) = 2 1 0 0 -1 2 0",
                "message(2) = 3 1 0 4 0 1 0; server(0, 8) = 2");
        Run.of(CHECK, "one that is alone", new LeasePair(4, 10, 0),
                "kill(1); partnerDown(0); ask(1, 0, 0, 0, 7); carryAll(); drop(0); send(0) = 1",
                "message(0) = 3 1 0 2 0 1 7");
        Run.of(CHECK, "illegal", new LeasePair(4, 10, 0), "send(-1) = illegal; send(2) = illegal");
        CHECK.end();
    }
}
