/** Promise 11 (give). */
public final class GiveTest {
    private static final Check CHECK = new Check("GiveTest");

    public static void main(String[] args) {
        Run.of(CHECK, "the least ones", new LeasePair(8, 10, 0),
                "give(0, 2) = 2; record(0, 0) = 4 -1 0 0 1 0 0 0 0 1; record(0, 2) = 4 -1 0 0 1 0 0 0 0 1",
                "record(0, 4) = 1 -1 0 0 0 0 0 0 0 0; record(0, 1, 0) = 0; server(0) = 2 0 1 1 1 0 2 2 1",
                "messages() = 0; give(0, 1) = 1; record(0, 4, 0) = 4; server(0, 8) = 2",
                "give(0, 32) = 1; give(0, 32) = 0; server(0, 8) = 3; server(0, 6) = 0");
        Run.of(CHECK, "bound ones are not given", new LeasePair(6, 10, 0),
                "ask(1, 0, 1, 0, 9); carryAll(); give(1, 1) = 1; record(1, 1, 0) = 2; record(1, 3, 0) = 4");
        Run.of(CHECK, "to the partner and back", new LeasePair(2, 10, 0),
                "give(0, 1); send(0); carryAll() = 1; record(1, 0) = 1 -1 0 0 0 0 1 0 0 0; carryAll() = 1",
                "record(0, 0) = 0 -1 0 0 1 0 0 0 0 0; give(1, 1) = 1; record(1, 0, 0) = 4; record(1, 1, 0) = 1",
                "send(1) = 1; carryAll(); carryAll(); record(0, 0) = 1 -1 0 0 1 0 1 0 0 0; record(1, 0, 0) = 0");
        Run.of(CHECK, "only when it is SERVING", new LeasePair(4, 10, 0),
                "kill(1); give(1, 1) = -1; give(0, 1) = 1; partnerDown(0); give(0, 1) = -1; start(1); give(1, 1) = -1",
                "record(0, 2, 0) = 1; record(1, 1, 0) = 1; server(0, 8) = 2");
        Run.of(CHECK, "illegal", new LeasePair(4, 10, 0),
                "give(0, 0) = illegal; give(0, -1) = illegal; give(0, 33) = illegal; give(2, 1) = illegal",
                "give(-1, 1) = illegal; kill(0); give(0, 0) = illegal; give(0, 33) = illegal");
        CHECK.end();
    }
}
