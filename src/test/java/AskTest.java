/** Promise 8 (ask), and how servers hear requests and clients hear answers. */
public final class AskTest {
    private static final Check CHECK = new Check("AskTest");

    public static void main(String[] args) {
        numbering();
        illegalRequests();
        newLeases();
        newLeasesWithoutAnAddress();
        newOfOneThatHasALease();
        newOfOneWhoseLeaseIsOver();
        renewing();
        renewingByWhatIsKnown();
        renewingWhatIsOvertaken();
        renewingInVain();
        releasing();
        releasingInVain();
        servingAlone();
        deafServers();
        hearingAnswers();
        CHECK.end();
    }

    private static void numbering() {
        Run.of(CHECK, "numbers", new LeasePair(2, 10, 0),
                "ask(0, 0, 0, 0, 1) = 1; ask(0, 1, 1, 1, 100000) = 2; ask(0, 2, 0, 1, 7) = 3; ask(15, 0, 1, 1, 9) = 1",
                "client(0, 2) = 3; client(15, 2) = 1; client(1, 2) = 0",
                "message(0) = 0 0 0 0 -1 1 1; message(1) = 0 1 0 1 1 2 100000; message(2) = 0 0 0 2 1 3 0",
                "message(3) = 0 1 15 0 -1 1 9");
    }

    private static void illegalRequests() {
        Run.of(CHECK, "illegal", new LeasePair(3, 10, 0),
                "ask(-1, 0, 0, 0, 1) = illegal; ask(16, 0, 0, 0, 1) = illegal",
                "ask(0, -1, 0, 0, 1) = illegal; ask(0, 3, 0, 0, 1) = illegal",
                "ask(0, 0, -1, 0, 1) = illegal; ask(0, 0, 2, 0, 1) = illegal",
                "ask(0, 0, 0, -1, 1) = illegal; ask(0, 0, 0, 3, 1) = illegal; ask(0, 2, 0, 3, 1) = illegal",
                "ask(0, 0, 0, 0, 0) = illegal; ask(0, 0, 0, 0, 100001) = illegal; ask(0, 2, 0, 0, 0) = illegal",
                "ask(0, 2, 0, 0, 100001) = illegal; ask(0, 1, 0, 0, -1) = illegal; ask(0, 1, 0, 0, 1) = 1");
        Run.of(CHECK, "an illegal RELEASE ends no lease", new LeasePair(2, 10, 0),
                "ask(4, 0, 0, 0, 9); carryAll(); carryAll(); client(4) = 0 9 1; ask(4, 2, 0, 0, 0) = illegal",
                "ask(4, 2, 0, 2, 1) = illegal; client(4) = 0 9 1");
    }

    private static void newLeases() {
        Run.of(CHECK, "NEW", new LeasePair(6, 100, 5),
                "seconds(10); skew(0, 4); ask(1, 0, 0, 3, 1000) = 1; carry(0) = true",
                "record(0, 0) = 2 1 114 1 1 0 0 0 1 1; server(0, 8) = 1; message(1) = 1 1 0 1 0 1 114",
                "ask(2, 0, 0, 3, 30) = 1; carry(2) = true; record(0, 2) = 2 2 44 1 1 0 0 0 1 1",
                "ask(3, 0, 0, 3, 100) = 1; carry(4) = true; record(0, 4) = 2 3 114 1 1 0 0 0 1 1",
                "ask(3, 0, 1, 0, 101) = 2; carry(6) = true; record(1, 1) = 2 3 110 2 1 0 0 0 1 1",
                "client(1) = -1 0 1; carry(1) = true; client(1) = 0 114 1; carry(3) = true; client(2) = 2 44 1",
                "carry(5) = false; carry(7) = true; client(3) = 1 110 2");
    }

    private static void newLeasesWithoutAnAddress() {
        Run.of(CHECK, "NO", new LeasePair(2, 100, 0),
                "ask(1, 0, 0, 0, 50); carryAll(); ask(2, 0, 0, 0, 50); carryAll() = 2; messages() = 1",
                "message(0) = 1 2 0 0 -1 1 0; server(0, 8) = 1; carry(0) = true; client(2) = -1 0 1");
    }

    private static void newOfOneThatHasALease() {
        Run.of(CHECK, "NEW as RENEW", new LeasePair(6, 100, 0),
                "ask(1, 0, 0, 0, 50); carryAll(); seconds(40); ask(1, 0, 0, 4, 70) = 2; carryAll() = 2",
                "record(0, 0) = 2 1 110 2 2 0 0 0 1 1; record(0, 2, 0) = 1; message(0) = 1 1 0 1 0 2 110",
                "server(0, 8) = 2");
        Run.of(CHECK, "NEW as RENEW of the least address", new LeasePair(4, 100, 0),
                // Server 1 gives address 1, which server 0 binds to client 1 behind address 0.
                "give(1, 1) = 1; send(1) = 1; carryAll(); carryAll(); ask(1, 0, 0, 0, 5); carryAll(); seconds(5)",
                "ask(1, 0, 0, 0, 50); carryAll(); record(0, 1) = 2 1 55 2 1 0 1 0 1 1; ask(1, 0, 0, 0, 60); carryAll()",
                "record(0, 0) = 2 1 5 1 1 0 0 0 1 1; record(0, 1) = 2 1 65 3 2 0 1 0 1 1; record(0, 2, 0) = 1");
    }

    private static void newOfOneWhoseLeaseIsOver() {
        Run.of(CHECK, "a second before the end", new LeasePair(4, 100, 0),
                "ask(1, 0, 0, 0, 50); carryAll(); seconds(49); ask(1, 0, 0, 0, 9); carryAll()",
                "record(0, 0) = 2 1 58 2 2 0 0 0 1 1; record(0, 2, 0) = 1");
        Run.of(CHECK, "at the end", new LeasePair(4, 100, 0),
                "ask(1, 0, 0, 0, 50); carryAll(); seconds(50); ask(1, 0, 0, 0, 9); carryAll()",
                "record(0, 0) = 2 1 50 1 1 0 0 0 1 1; record(0, 2) = 2 1 59 2 1 0 0 0 1 1");
    }

    private static void renewing() {
        Run.of(CHECK, "RENEW", new LeasePair(2, 100, 0),
                "ask(1, 0, 0, 0, 50); carryAll(); seconds(10); ask(1, 1, 0, 0, 60); carryAll() = 2",
                "record(0, 0) = 2 1 70 2 2 0 0 0 1 1; message(0) = 1 1 0 1 0 2 70; server(0, 8) = 2",
                // Less than it had: the end stays.
                "ask(1, 1, 0, 0, 1); carryAll() = 2; record(0, 0) = 2 1 70 3 3 0 0 0 1 1; message(0) = 1 1 0 1 0 3 70",
                // More than the lead.
                "ask(1, 1, 0, 0, 101); carryAll() = 2; record(0, 0) = 2 1 110 4 4 0 0 0 1 1; server(0, 8) = 4",
                "carryAll() = 1; client(1) = 0 110 4");
    }

    private static void renewingByWhatIsKnown() {
        Run.of(CHECK, "known", new LeasePair(2, 100, 0),
                "ask(1, 0, 0, 0, 1000); carryAll(); send(0) = 1; carryAll(); carryAll(); record(0, 0, 5) = 100",
                "ask(1, 1, 0, 0, 1000); carryAll(); record(0, 0, 2) = 200; ask(1, 1, 0, 0, 150); carryAll()",
                "record(0, 0, 2) = 200; seconds(120); ask(1, 1, 0, 0, 1000); carryAll(); record(0, 0, 2) = 220");
    }

    private static void renewingWhatIsOvertaken() {
        Run.of(CHECK, "an overtaken RENEW", new LeasePair(2, 100, 0),
                "ask(1, 0, 0, 0, 50); carryAll(); drop(0); ask(1, 1, 0, 0, 60) = 2; ask(1, 1, 0, 0, 70) = 3",
                "carry(1) = true; record(0, 0) = 2 1 70 3 2 0 0 0 1 1; messages() = 3",
                "carry(0) = true; record(0, 0) = 2 1 70 3 2 0 0 0 1 1; messages() = 3; server(0, 8) = 2",
                // The same request again is not overtaken.
                "carry(1) = true; record(0, 0) = 2 1 70 3 3 0 0 0 1 1; messages() = 4",
                // Overtaken counts even when the lease is over.
                "seconds(70); carry(0) = true; messages() = 4; carry(1) = true; messages() = 5",
                "message(4) = 1 1 0 0 -1 3 0");
        Run.of(CHECK, "an overtaken NEW", new LeasePair(4, 100, 0),
                "ask(1, 0, 0, 0, 50); ask(1, 0, 0, 0, 60); carry(1) = true; carry(0) = true; messages() = 3",
                "record(0, 0) = 2 1 60 2 1 0 0 0 1 1; record(0, 2, 0) = 1");
    }

    private static void renewingInVain() {
        Run.of(CHECK, "RENEW answered NO", new LeasePair(4, 100, 0),
                "ask(1, 0, 0, 0, 50); carryAll(); carryAll(); ask(2, 1, 0, 0, 50); carryAll() = 1",
                "message(0) = 1 2 0 0 -1 1 0; carryAll(); ask(1, 1, 0, 1, 50); carryAll(); message(0) = 1 1 0 0 -1 2 0",
                "carry(0) = true; client(1) = 0 50 2; carryAll(); ask(1, 1, 0, 2, 50); carryAll(); message(0, 3) = 0",
                "carryAll(); server(0, 8) = 1; seconds(50); ask(1, 1, 0, 0, 50); carryAll(); message(0, 3) = 0",
                "record(0, 0) = 2 1 50 1 1 0 0 0 1 1; tidy(0) = 1; skew(0, 0); carryAll(); ask(1, 1, 0, 0, 9)",
                "carryAll(); message(0) = 1 1 0 0 -1 5 0; record(0, 0, 0) = 3");
    }

    private static void releasing() {
        Run.of(CHECK, "RELEASE", new LeasePair(2, 100, 5),
                "ask(1, 0, 0, 0, 50); carryAll(); carryAll(); client(1) = 0 50 1; ask(1, 2, 0, 0, 1) = 2",
                "client(1) = -1 0 2; record(0, 0, 0) = 2; carry(0) = true; messages() = 1; server(0, 8) = 2",
                "record(0, 0) = 3 1 50 2 2 0 0 0 1 3; carry(0) = true; record(0, 0) = 3 1 50 2 2 0 0 0 1 3",
                "server(0, 8) = 2");
        Run.of(CHECK, "RELEASE of another address ends the lease too", new LeasePair(4, 100, 5),
                "ask(1, 0, 0, 0, 50); carryAll(); carryAll(); ask(1, 2, 1, 3, 1) = 2; client(1) = -1 0 2");
        Run.of(CHECK, "RELEASE of what is over", new LeasePair(2, 100, 5),
                "ask(1, 0, 0, 0, 50); carryAll(); seconds(90); ask(1, 2, 0, 0, 1); carryAll()",
                "record(0, 0) = 3 1 50 2 2 0 0 0 1 3");
    }

    private static void releasingInVain() {
        Run.of(CHECK, "an overtaken RELEASE", new LeasePair(2, 100, 0),
                "ask(1, 0, 0, 0, 50); carryAll(); drop(0); ask(1, 2, 0, 0, 1) = 2; ask(1, 0, 0, 0, 50) = 3; carry(1)",
                "carry(0) = true; record(0, 0) = 2 1 50 3 2 0 0 0 1 1; server(0, 8) = 2; messages() = 3");
        Run.of(CHECK, "RELEASE of another's", new LeasePair(2, 100, 0),
                "ask(1, 0, 0, 0, 50); carryAll(); drop(0); ask(2, 2, 0, 0, 1) = 1; carry(0) = true; messages() = 1",
                "record(0, 0) = 2 1 50 1 1 0 0 0 1 1; ask(2, 2, 0, 1, 1); carry(1) = true; server(0, 8) = 1",
                "record(0, 1, 4) = 0");
    }

    private static void servingAlone() {
        Run.of(CHECK, "ALONE", new LeasePair(4, 10, 0),
                "kill(0); partnerDown(1) = true; ask(1, 0, 1, 0, 5000); carryAll() = 1",
                "record(1, 1) = 2 1 5000 1 1 0 0 0 1 5; message(0, 6) = 5000; ask(1, 1, 1, 1, 70000); carryAll() = 2",
                "record(1, 1) = 2 1 70000 2 2 0 0 0 1 5; ask(1, 2, 1, 1, 1); carryAll(); messages() = 0",
                "record(1, 1) = 1 1 70000 3 3 0 0 0 1 7; server(1, 8) = 4",
                "ask(2, 0, 1, 0, 40); carryAll(); record(1, 1) = 2 2 40 1 4 0 0 0 4 5");
        Run.of(CHECK, "ALONE, not SOLE", new LeasePair(2, 10, 0),
                "ask(1, 0, 1, 0, 8); carryAll(); kill(0); partnerDown(1) = true; record(1, 1, 9) = 1",
                "ask(1, 1, 1, 1, 300); carryAll(); record(1, 1) = 2 1 300 2 2 0 0 0 1 1",
                "ask(1, 2, 1, 1, 1); carryAll(); record(1, 1) = 3 1 300 3 3 0 0 0 1 3");
        Run.of(CHECK, "OWN but not SOLE is SOLE when it is leased", new LeasePair(2, 10, 0),
                // A late ACK makes it OWN when the server is ALONE already.
                "ask(1, 0, 1, 0, 8); carryAll(); carryAll(); ask(1, 2, 1, 1, 1); carryAll(); send(1) = 1; carryAll()",
                "kill(0); partnerDown(1) = true; record(1, 1, 0) = 3; carryAll() = 1; record(1, 1, 0) = 1",
                "record(1, 1, 9) = 2; tidy(1) = 0; ask(2, 0, 1, 0, 40); carryAll(); record(1, 1) = 2 2 40 1 3 0 0 0 3 5");
    }

    private static void deafServers() {
        Run.of(CHECK, "deaf", new LeasePair(2, 10, 0),
                "ask(1, 0, 0, 0, 8); ask(1, 2, 0, 0, 8); kill(0); carry(0) = false; carry(1) = false; start(0)",
                "carry(0) = false; carry(1) = false; record(0, 0, 0) = 1; messages() = 3; server(0, 8) = 1");
    }

    private static void hearingAnswers() {
        Run.of(CHECK, "answers", new LeasePair(4, 100, 0),
                "ask(1, 0, 0, 0, 50); carryAll(); carry(0) = true; carry(0) = true; client(1) = 0 50 1",
                "ask(1, 0, 1, 0, 60) = 2; carry(0) = false; carry(1) = true; carry(2) = true; client(1) = 1 60 2",
                "ask(1, 2, 0, 3, 1) = 3; carry(2) = false; client(1) = -1 0 3; carry(0) = false");
        Run.of(CHECK, "an answer to the request before a RELEASE", new LeasePair(2, 100, 0),
                "ask(1, 0, 0, 0, 50); carryAll(); ask(1, 2, 0, 0, 50); carry(0) = false; client(1) = -1 0 2");
    }
}
