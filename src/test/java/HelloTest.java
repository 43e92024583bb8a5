/** The terms behind promises 6, 9 and 12: how a server hears HELLO, and comes back to SERVING. */
public final class HelloTest {
    private static final Check CHECK = new Check("HelloTest");

    public static void main(String[] args) {
        Run.of(CHECK, "HELLO to one that is SERVING", new LeasePair(3, 10, 0),
                "kill(1); start(1); carry(0) = true; server(0) = 2 0 1 2 1 0 2 0 1; messages() = 4",
                "message(1) = 3 1 0 1 0 0 0; message(2) = 3 1 0 0 1 0 0; message(3) = 3 1 0 1 2 0 0",
                // Not greater than what was heard: no write, but the UPDATEs all the same.
                "carry(0) = true; server(0, 8) = 1; server(0, 3) = 2; messages() = 7");
        Run.of(CHECK, "HELLO of an epoch that is over", new LeasePair(2, 10, 0),
                "kill(1); start(1); kill(1); start(1); carry(1) = true; server(0, 3) = 3; carry(0) = true",
                "server(0, 3) = 3; server(0, 8) = 1; messages() = 6");
        Run.of(CHECK, "HELLO to one that is ALONE", new LeasePair(2, 10, 0),
                "kill(1); partnerDown(0); record(0, 0, 9) = 4; seconds(10); tidy(0) = 1; record(0, 1, 9) = 5; start(1)",
                "carry(0) = true; server(0) = 2 10 1 2 1 0 2 1 3; record(0, 0, 9) = 0; record(0, 1, 9) = 1");
        Run.of(CHECK, "an old HELLO to one that is ALONE", new LeasePair(2, 10, 0),
                "kill(1); start(1); carry(0) = true; kill(1); partnerDown(0) = true; carry(0) = true; server(0, 0) = 3",
                "record(0, 0, 9) = 4; messages() = 5; server(0, 8) = 2");
        Run.of(CHECK, "HELLO to one that is RECOVERING", new LeasePair(2, 10, 0),
                "kill(0); kill(1); start(0); start(1); carry(1) = true; server(0) = 1 0 2 2 1 0 1 0 2; messages() = 4",
                "carry(0) = true; carry(2) = true; carry(3) = true; server(1, 0) = 2; server(0, 0) = 1",
                "carryAll() = 8; messages() = 8; server(0, 0) = 2; server(0, 4) = 2");
        Run.of(CHECK, "recovering needs an UPDATE of every address", new LeasePair(3, 10, 0),
                "kill(0); start(0); carryAll() = 1; carry(0); carry(0); carry(2); server(0, 0) = 1; server(0, 8) = 1",
                "carry(1); server(0) = 2 0 2 1 2 0 2 0 2");
        Run.of(CHECK, "one that heard of an earlier epoch makes nothing fresh", new LeasePair(2, 10, 0),
                "give(1, 1); send(1) = 1; kill(0); start(0); carry(0) = true; drop(1); drop(0); messages() = 1",
                "send(0) = 1; carry(1); drop(2) = 3; message(2, 4) = 1; carry(2) = true; server(0, 0) = 1; messages() = 4");
        Run.of(CHECK, "what is behind SEEN makes fresh too", new LeasePair(2, 10, 0),
                // Server 1 takes what is given, and leases it, before the ACK that is heard is sent.
                "give(0, 1); send(0); kill(0); start(0); carry(1); messages() = 4; carry(0); ask(1, 0, 1, 0, 5)",
                "carry(5); carry(0); messages() = 8; message(7) = 4 0 1 0 0 1 0; carry(7); record(0, 0, 6) = 1",
                "carry(3); server(0, 0) = 1; message(2) = 3 0 1 0 0 0 0; carry(2); server(0, 0) = 2; messages() = 9");
        CHECK.end();
    }
}
