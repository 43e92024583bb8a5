/** Promises 17 (client), 18 (record) and 19 (server). */
public final class LooksTest {
    private static final Check CHECK = new Check("LooksTest");

    public static void main(String[] args) {
        clients();
        records();
        servers();
        CHECK.end();
    }

    private static void clients() {
        Run.of(CHECK, "client", new LeasePair(4, 100, 5),
                "client(0) = -1 0 0; client(15) = -1 0 0; ask(3, 0, 0, 0, 20) = 1; client(3) = -1 0 1",
                "carryAll(); carryAll(); client(3) = 0 20 1; seconds(14); client(3) = 0 20 1",
                // It holds the address while the time is less than until - D.
                "seconds(1); client(3) = -1 20 1; seconds(100); client(3) = -1 20 1; ask(3, 2, 0, 0, 1) = 2",
                "client(3) = -1 0 2");
        Run.of(CHECK, "held by the time, not by a clock", new LeasePair(4, 100, 5),
                "skew(0, 5); ask(3, 0, 0, 0, 20); carryAll(); carryAll(); client(3) = 0 25 1; seconds(19)",
                "client(3, 0) = 0; seconds(1); client(3, 0) = -1");
        Run.of(CHECK, "illegal", new LeasePair(4, 100, 5),
                "client(-1, 0) = illegal; client(16, 0) = illegal; client(0, -1) = illegal; client(0, 3) = illegal");
    }

    private static void records() {
        Run.of(CHECK, "record", new LeasePair(4, 100, 5),
                "ask(9, 0, 0, 0, 20); carryAll(); carryAll(); record(0, 0) = 2 9 20 1 1 0 0 0 1 1; send(0); carryAll()",
                "record(1, 0) = 2 9 20 1 0 0 1 0 1 0; carryAll(); record(0, 0) = 2 9 20 1 1 20 0 0 1 0",
                "ask(9, 2, 0, 0, 20); carryAll(); record(0, 0) = 3 9 20 2 2 20 0 0 1 3; kill(0); partnerDown(1)",
                "record(1, 1) = 1 -1 0 0 0 0 0 0 0 4; ask(9, 0, 1, 0, 20); carryAll()",
                "seconds(200); tidy(1) = 2; record(1, 0) = 1 9 20 3 2 0 -1 1 1 5; record(1, 2, 6) = -1");
        Run.of(CHECK, "all flags", new LeasePair(2, 100, 0),
                "kill(0); partnerDown(1); ask(2, 0, 1, 0, 7); ask(2, 2, 1, 1, 7); carryAll()",
                "record(1, 1) = 1 2 7 2 2 0 0 0 1 7");
        Run.of(CHECK, "illegal", new LeasePair(4, 100, 5),
                "record(-1, 0, 0) = illegal; record(2, 0, 0) = illegal; record(0, -1, 0) = illegal",
                "record(0, 4, 0) = illegal; record(0, 0, -1) = illegal; record(0, 0, 10) = illegal");
    }

    private static void servers() {
        Run.of(CHECK, "server", new LeasePair(5, 100, 5),
                "server(0) = 2 0 1 1 1 0 3 0 0; server(1) = 2 0 1 1 1 0 2 0 0; seconds(30); skew(1, 4)",
                "server(1, 1) = 34; give(0, 2); ask(1, 0, 0, 0, 5); carryAll(); server(0) = 2 30 1 1 1 0 0 3 2",
                "kill(0); partnerDown(1); server(1) = 3 34 1 1 1 34 2 0 1; start(0); server(0) = 1 30 2 1 1 0 0 3 3",
                "carryAll(); server(1) = 2 34 1 2 1 34 2 0 2; carryAll(); server(0) = 2 30 2 1 2 0 0 3 4",
                "seconds(1); kill(1); server(1) = 0 35 1 2 1 34 2 0 2; start(1); start(1) = false; server(1, 2) = 2");
        Run.of(CHECK, "illegal", new LeasePair(4, 100, 5),
                "server(-1, 0) = illegal; server(2, 0) = illegal; server(0, -1) = illegal; server(0, 9) = illegal");
    }
}
