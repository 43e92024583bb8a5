/** The terms behind promises 5 and 19: when a server writes, and what it still does when that is its last write. */
public final class WritesTest {
    private static final Check CHECK = new Check("WritesTest");

    public static void main(String[] args) {
        requests();
        hellos();
        updates();
        acks();
        calls();
        CHECK.end();
    }

    private static void requests() {
        Run.of(CHECK, "NEW", new LeasePair(2, 10, 0),
                "fuse(0, 1); ask(1, 0, 0, 0, 5); carryAll(); server(0, 0) = 0; messages() = 0",
                "record(0, 0) = 2 1 5 1 1 0 0 0 1 1; server(0, 8) = 1");
        Run.of(CHECK, "RENEW", new LeasePair(2, 10, 0),
                "ask(1, 0, 0, 0, 5); carryAll(); drop(0); fuse(0, 1); ask(1, 1, 0, 0, 6); carryAll(); server(0, 0) = 0",
                "messages() = 0; record(0, 0) = 2 1 6 2 2 0 0 0 1 1; server(0, 8) = 2");
        Run.of(CHECK, "RELEASE", new LeasePair(2, 10, 0),
                "ask(1, 0, 0, 0, 5); carryAll(); drop(0); fuse(0, 1); ask(1, 2, 0, 0, 6); carryAll(); server(0, 0) = 0",
                "record(0, 0) = 3 1 5 2 2 0 0 0 1 3; server(0, 8) = 2");
        Run.of(CHECK, "NO and RELEASE of nothing", new LeasePair(2, 10, 0),
                "fuse(0, 1); ask(1, 1, 0, 0, 5); ask(2, 2, 0, 0, 5); carryAll(); server(0, 0) = 2; messages() = 1",
                "server(0, 8) = 0");
    }

    private static void hellos() {
        Run.of(CHECK, "HELLO", new LeasePair(2, 10, 0),
                "kill(1); start(1); fuse(0, 1); carry(0) = true; server(0) = 0 0 1 2 1 0 1 0 1; messages() = 1");
        Run.of(CHECK, "HELLO to one that is ALONE", new LeasePair(2, 10, 0),
                "kill(1); partnerDown(0); start(1); fuse(0, 1); carry(0) = true; server(0) = 0 0 1 2 1 0 1 0 2",
                "record(0, 0, 9) = 0; messages() = 1");
        Run.of(CHECK, "HELLO once more", new LeasePair(2, 10, 0),
                "kill(1); start(1); carry(0); fuse(0, 1); carry(0) = true; server(0, 0) = 2; messages() = 5");
    }

    private static void updates() {
        Run.of(CHECK, "UPDATE that is taken in", new LeasePair(2, 10, 0),
                "give(0, 1); send(0); fuse(1, 1); carry(0) = true; server(1, 0) = 0; messages() = 1",
                "record(1, 0) = 1 -1 0 0 0 0 1 0 0 0; server(1, 8) = 1");
        Run.of(CHECK, "UPDATE once more", new LeasePair(2, 10, 0),
                "give(0, 1); send(0); carry(0); fuse(1, 1); carry(0) = true; server(1, 0) = 2; messages() = 3",
                "server(1, 8) = 1");
        Run.of(CHECK, "UPDATE by which it is SERVING", new LeasePair(2, 10, 0),
                "kill(0); start(0); carryAll(); carry(0); fuse(0, 1); carry(1) = true; server(0) = 0 0 2 1 2 0 1 0 2",
                "messages() = 3; start(0); server(0, 4) = 2");
        Run.of(CHECK, "UPDATE by which it is SERVING and that is taken in", new LeasePair(2, 10, 0),
                "give(1, 1); kill(0); start(0); carryAll(); carry(0); fuse(0, 2); carry(1) = true",
                "server(0) = 2 0 2 1 2 0 2 0 2; messages() = 4");
    }

    private static void acks() {
        Run.of(CHECK, "ACK", new LeasePair(2, 10, 0),
                "give(0, 1); send(0); carryAll(); fuse(0, 1); carry(0) = true; server(0, 0) = 0; record(0, 0, 0) = 0",
                "server(0, 8) = 2");
        Run.of(CHECK, "ACK once more", new LeasePair(2, 10, 0),
                "give(0, 1); send(0); carryAll(); carry(0); fuse(0, 1); carry(0) = true; server(0, 0) = 2",
                "server(0, 8) = 2");
        Run.of(CHECK, "ACK of an end alone", new LeasePair(2, 10, 0),
                "ask(1, 0, 0, 0, 5); carryAll(); drop(0); send(0); carryAll(); ask(1, 1, 0, 0, 6); carry(1); fuse(0, 1)",
                "carry(0) = true; server(0, 0) = 0; record(0, 0) = 2 1 6 2 2 5 0 0 1 1; server(0, 8) = 3");
    }

    private static void calls() {
        Run.of(CHECK, "tidy", new LeasePair(6, 10, 0),
                "ask(1, 0, 0, 0, 5); ask(2, 0, 0, 0, 5); carryAll(); fuse(0, 1); tidy(0) = 0; server(0, 0) = 2",
                "seconds(5); tidy(0) = 2; server(0, 0) = 0; server(0, 8) = 3; record(0, 0, 0) = 3; record(0, 2, 0) = 3");
        Run.of(CHECK, "give", new LeasePair(6, 10, 0),
                "fuse(0, 1); give(0, 3) = 3; server(0, 0) = 0; server(0, 8) = 1; record(0, 4, 0) = 4");
        Run.of(CHECK, "give of nothing", new LeasePair(2, 10, 0),
                "give(0, 1); fuse(0, 1); give(0, 3) = 0; server(0, 0) = 2; server(0, 8) = 1");
        Run.of(CHECK, "partnerDown", new LeasePair(2, 10, 0),
                "kill(1); seconds(4); fuse(0, 1); partnerDown(0) = true; server(0) = 0 4 1 1 1 4 1 0 1",
                "record(0, 0, 9) = 4");
        Run.of(CHECK, "send and start", new LeasePair(2, 10, 0),
                "give(0, 1); fuse(0, 1); send(0) = 1; server(0, 0) = 2; server(0, 8) = 1; kill(0); start(0)",
                "server(0, 8) = 2");
        Run.of(CHECK, "a fuse within carryAll", new LeasePair(6, 10, 0),
                "fuse(0, 2); ask(1, 0, 0, 0, 5); ask(2, 0, 0, 0, 5); ask(3, 0, 0, 0, 5); carryAll() = 3; messages() = 1",
                "server(0, 0) = 0; server(0, 8) = 2; record(0, 2, 0) = 2; record(0, 4, 0) = 1");
    }
}
