/** Promise 10 (tidy). */
public final class TidyTest {
    private static final Check CHECK = new Check("TidyTest");

    public static void main(String[] args) {
        illegalOrIdle();
        serving();
        aloneWithSoleAddresses();
        takingOverWhatWasTheOthers();
        takingOverByTheEnd();
        takingOverByTheDeclaration();
        takingOverWhatIsNotFree();
        CHECK.end();
    }

    private static void illegalOrIdle() {
        Run.of(CHECK, "illegal", new LeasePair(2, 10, 0), "tidy(-1) = illegal; tidy(2) = illegal");
        Run.of(CHECK, "idle", new LeasePair(2, 10, 0),
                "ask(1, 0, 0, 0, 5); carryAll(); seconds(50); kill(0); tidy(0) = -1; start(0); tidy(0) = -1",
                "record(0, 0, 0) = 2; tidy(1) = 0; server(1, 8) = 0");
    }

    private static void serving() {
        Run.of(CHECK, "SERVING", new LeasePair(6, 100, 4),
                "ask(1, 0, 0, 0, 20); ask(2, 0, 0, 0, 21); ask(3, 0, 0, 0, 22); carryAll(); seconds(19); tidy(0) = 0",
                "server(0, 8) = 3; skew(0, 2); tidy(0) = 2; record(0, 0) = 3 1 20 1 2 0 0 0 1 1",
                "record(0, 2) = 3 2 21 1 2 0 0 0 1 1; record(0, 4) = 2 3 22 1 1 0 0 0 1 1; server(0, 8) = 4",
                "tidy(0) = 0; server(0, 8) = 4; seconds(100); tidy(0) = 1; record(0, 0, 4) = 2; server(0, 8) = 5",
                "record(0, 1, 0) = 0; tidy(1) = 0");
    }

    private static void aloneWithSoleAddresses() {
        Run.of(CHECK, "ALONE, SOLE", new LeasePair(2, 10, 0),
                "kill(0); partnerDown(1); ask(1, 0, 1, 0, 7); carryAll(); drop(0); seconds(6); tidy(1) = 0",
                "seconds(1); tidy(1) = 1; record(1, 1) = 1 1 7 1 2 0 0 0 1 5; server(1, 8) = 3; tidy(1) = 0",
                "server(1, 8) = 3; ask(2, 0, 1, 0, 90); carryAll(); drop(0); seconds(3); tidy(1) = 1",
                "record(1, 1) = 2 2 97 1 3 0 0 0 3 5; record(1, 0) = 1 -1 0 0 1 0 -1 1 0 5",
                // Long behind the end and the lead: nothing but the end counts for what is SOLE.
                "seconds(86); tidy(1) = 0; seconds(1); tidy(1) = 1; record(1, 1, 0) = 1; record(1, 1, 7) = 0");
    }

    private static void takingOverWhatWasTheOthers() {
        Run.of(CHECK, "ALONE, OTHER", new LeasePair(4, 10, 3),
                "seconds(100); skew(1, 1); kill(0); partnerDown(1) = true; server(1, 5) = 101; seconds(12)",
                "tidy(1) = 0; server(1, 8) = 1; seconds(1); tidy(1) = 2; server(1, 8) = 2",
                "record(1, 0) = 1 -1 0 0 1 0 -1 1 0 5; record(1, 2) = 1 -1 0 0 1 0 -1 1 0 5; record(1, 1, 4) = 0",
                "server(1, 6) = 4; tidy(1) = 0");
        Run.of(CHECK, "VOID is what was HEARD", new LeasePair(2, 10, 0),
                "kill(0); start(0); carryAll() = 1; carryAll() = 2; kill(0); partnerDown(1); seconds(10)",
                "server(1, 3) = 2; tidy(1) = 1; record(1, 0) = 1 -1 0 0 1 0 -1 2 0 5");
    }

    private static void takingOverByTheEnd() {
        Run.of(CHECK, "ALONE, bound by the other", new LeasePair(2, 10, 0),
                "ask(1, 0, 0, 0, 9); carryAll(); drop(0); send(0); carryAll(); carryAll()",
                "ask(1, 1, 0, 0, 90); carryAll(); drop(0); send(0); carryAll(); record(1, 0, 2) = 19; kill(0)",
                "partnerDown(1); seconds(28); tidy(1) = 0; seconds(1); tidy(1) = 1",
                "record(1, 0) = 1 1 19 2 1 0 -1 1 1 5");
    }

    private static void takingOverByTheDeclaration() {
        Run.of(CHECK, "ALONE, bound but over before the declaration", new LeasePair(2, 10, 5),
                "ask(1, 0, 0, 0, 9); carryAll(); drop(0); send(0); carryAll(); carryAll(); seconds(50); kill(0)",
                "partnerDown(1); seconds(14); tidy(1) = 0; skew(1, 1); tidy(1) = 1; record(1, 0, 0) = 1");
    }

    private static void takingOverWhatIsNotFree() {
        Run.of(CHECK, "ALONE, own leases that are not SOLE", new LeasePair(4, 10, 0),
                "ask(1, 0, 1, 0, 5); ask(2, 0, 1, 0, 8); carryAll(); drop(0); drop(0); ask(2, 2, 1, 3, 1); carryAll()",
                "record(1, 1, 0) = 2; record(1, 3, 0) = 3; kill(0); partnerDown(1); seconds(14); tidy(1) = 2",
                "record(1, 1, 0) = 2; record(1, 3, 0) = 3; seconds(1); tidy(1) = 1; record(1, 1) = 1 1 5 1 2 0 -1 1 1 5",
                "seconds(3); tidy(1) = 1; record(1, 3) = 1 2 8 2 3 0 -1 1 1 7");
        Run.of(CHECK, "ALONE, GIVEN", new LeasePair(2, 10, 0),
                "give(1, 1) = 1; kill(0); partnerDown(1); seconds(9); tidy(1) = 0; seconds(1); tidy(1) = 2",
                "record(1, 1) = 1 -1 0 0 2 0 -1 1 0 5");
    }
}
