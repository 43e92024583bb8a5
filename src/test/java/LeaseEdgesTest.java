/**
 * "Terms": when a client holds an address and hears an answer, and how a
 * server hears NEW, RENEW and RELEASE; each sentence with an edge from both sides.
 */
public final class LeaseEdgesTest {
    private static final Check CHECK = new Check("LeaseEdgesTest");
    private static final String ALONE = "kill(1); partnerDown(0)";

    public static void main(String[] args) {
        holding();
        hearingAnswers();
        whoHearsRequests();
        newOfOneWithALease();
        newOfOneWithTwoLeases();
        leastOwnAddress();
        endOfNew();
        bindingAnew();
        becomingSole();
        overtakenRenew();
        renewByItsEnd();
        renewOfWhatIsNotLeased();
        endOfRenew();
        capOfRenewByTheClock();
        capOfRenewByWhatIsKnown();
        capOfRenewUnderTheEnd();
        noCapWhenAlone();
        overtakenRelease();
        releaseOfWhatIsNotLeased();
        whatReleaseMakes();
        CHECK.end();
    }

    private static void holding() {
        String sentence = "it HOLDS the address while the time is less than until - D";
        String calls = "ask(1, 0, 0, 0, 20); carryAll(); carryAll(); seconds(%s); client(1) = %s";
        Edge.of(CHECK, sentence, Edge.pair(2, 100, 0), calls,
                Edge.row(19, "0 20 1"), Edge.row(20, "-1 20 1"), Edge.row(21, "-1 20 1"));
        Edge.of(CHECK, sentence, Edge.pair(2, 100, 5), calls,
                Edge.row(0, "0 20 1"), Edge.row(14, "0 20 1"), Edge.row(15, "-1 20 1"), Edge.row(16, "-1 20 1"));
        Edge.of(CHECK, sentence + ": never", Edge.pair(2, 100, 5),
                "ask(1, 0, 0, 0, %s); carryAll(); carryAll(); client(1) = %s; most() = %s",
                Edge.row(4, "-1 4 1", 0), Edge.row(5, "-1 5 1", 0), Edge.row(6, "0 6 1", 1));
        // A D above 1000 counts as 1000, one below 0 as 0.
        Edge.of(CHECK, sentence, Edge.pair(2, 10000, 1001), "ask(1, 0, 0, 0, 1100); carryAll(); carryAll();"
                + "seconds(%s); client(1) = %s",
                Edge.row(99, "0 1100 1"), Edge.row(100, "-1 1100 1"), Edge.row(101, "-1 1100 1"));
        Edge.of(CHECK, sentence, Edge.pair(2, 100, -1), calls,
                Edge.row(19, "0 20 1"), Edge.row(20, "-1 20 1"), Edge.row(21, "-1 20 1"));
    }

    private static void hearingAnswers() {
        Edge.of(CHECK, "it bears the number of its last request and that was no RELEASE", Edge.pair(2, 100, 0),
                "ask(1, 0, 0, 0, 20); carry(0); %s; carry(1) = %s; client(1) = %s",
                Edge.row("messages()", true, "0 20 1"),
                Edge.row("ask(1, 0, 0, 0, 5)", false, "-1 0 2"),
                Edge.row("ask(1, 1, 1, 0, 5)", false, "-1 0 2"),
                Edge.row("ask(1, 2, 0, 1, 5)", false, "-1 0 2"),
                Edge.row("ask(1, 2, 0, 1, 5); ask(1, 0, 1, 1, 5)", false, "-1 0 3"),
                Edge.row("ask(2, 2, 0, 0, 5)", true, "0 20 1"));
        Edge.of(CHECK, "a LEASE becomes its lease instead of what it had; by a NO nothing changes",
                Edge.pair(4, 100, 0),
                "ask(1, 0, 0, 0, 20); carryAll(); carryAll(); ask(1, %s, %s, 1, 30); carryAll(); carry(0) = true;"
                + "client(1) = %s",
                Edge.row(0, 1, "1 30 2"), Edge.row(0, 0, "0 30 2"), Edge.row(1, 0, "0 20 2"));
    }

    private static void whoHearsRequests() {
        for (int kind = 0; kind <= 2; kind++) {
            Edge.of(CHECK, "A SERVER that is SERVING or ALONE hears a request (others don't hear it)",
                    Edge.pair(2, 100, 0), "ask(1, " + kind + ", 0, 0, 5); %s; carry(0) = %s; server(0, 0) = %s",
                    Edge.row("messages()", true, 2), Edge.row(ALONE, true, 3), Edge.row("kill(0)", false, 0),
                    Edge.row("kill(0); start(0)", false, 1));
        }
    }

    private static void newOfOneWithALease() {
        Edge.of(CHECK, "NEW: a record that is BOUND, with an end greater than t", Edge.pair(4, 100, 0),
                "ask(1, 0, 0, 0, 50); carryAll(); drop(0); seconds(%s); ask(1, 0, 0, 0, 10); carryAll();"
                + "record(0, 0) = %s; record(0, 2) = %s",
                Edge.row(49, "2 1 59 2 2 0 0 0 1 1", "1 -1 0 0 0 0 0 0 0 0"),
                Edge.row(50, "2 1 50 1 1 0 0 0 1 1", "2 1 60 2 1 0 0 0 1 1"),
                Edge.row(51, "2 1 50 1 1 0 0 0 1 1", "2 1 61 2 1 0 0 0 1 1"));
        Edge.of(CHECK, "NEW: BOUND, to this client", Edge.pair(4, 100, 0),
                "ask(1, 0, 0, 0, 50); carryAll(); drop(0); ask(%s, 0, 0, 0, 10); carryAll(); message(0) = %s",
                Edge.row(0, "1 0 0 1 2 1 10"), Edge.row(1, "1 1 0 1 0 2 50"), Edge.row(2, "1 2 0 1 2 1 10"));
    }

    private static void newOfOneWithTwoLeases() {
        Edge.of(CHECK, "NEW: (the one of the least address)", Edge.pair(4, 100, 0),
                // Client 1 has address 0 until 20 and address 1 until 40; server 0 knows of both.
                "ask(1, 0, 0, 0, 20); ask(1, 0, 1, 0, 40); carryAll(); carryAll(); send(1); carryAll(); carryAll();"
                + "record(0, 1) = 2 1 40 2 0 0 1 0 1 0; seconds(%s); ask(1, 0, 0, 3, 5); carryAll(); message(0) = %s",
                Edge.row(19, "1 1 0 1 0 3 24"), Edge.row(20, "1 1 0 1 1 3 40"), Edge.row(21, "1 1 0 1 1 3 40"),
                Edge.row(39, "1 1 0 1 1 3 44"), Edge.row(40, "1 1 0 1 2 3 45"));
    }

    private static void leastOwnAddress() {
        Edge.of(CHECK, "NEW: its least OWN address; without an OWN address it answers NO", Edge.pair(4, 100, 0),
                "%s; ask(9, 0, 0, 0, 5); carryAll(); message(%s) = %s; server(0, 6) = %s; server(0, 8) = %s",
                Edge.row("messages()", 0, "1 9 0 1 0 1 5", 1, 1),
                Edge.row("ask(1, 0, 0, 0, 5)", 1, "1 9 0 1 2 1 5", 0, 2),
                Edge.row("ask(1, 0, 0, 0, 5); ask(2, 0, 0, 0, 5)", 2, "1 9 0 0 -1 1 0", 0, 2));
        Edge.of(CHECK, "NEW: without an OWN address it answers NO, ALONE too", Edge.pair(2, 100, 0),
                ALONE + "; %s; ask(9, 0, 0, 0, 5); carryAll(); message(%s) = %s; server(0, 8) = 2",
                Edge.row("messages()", 0, "1 9 0 1 0 1 5"),
                Edge.row("ask(1, 0, 0, 0, 5)", 1, "1 9 0 0 -1 1 0"));
        Edge.of(CHECK, "NEW: what is GIVEN or ENDING is not OWN", Edge.pair(2, 100, 0),
                "%s; ask(9, 0, 0, 0, 5); carryAll(); message(0, 3) = %s",
                Edge.row("give(1, 1)", 1), Edge.row("give(0, 1)", 0),
                Edge.row("ask(1, 0, 0, 0, 5); carryAll(); drop(0); ask(1, 2, 0, 0, 1); carryAll()", 0));
    }

    private static void endOfNew() {
        String calls = "%s; seconds(7); skew(0, 2); ask(1, 0, 0, 0, %s); carryAll(); record(0, 0, 2) = %s;"
                + "message(0, 6) = %s; record(0, 0, 9) = %s";
        Edge.of(CHECK, "NEW: the end is t and the seconds, when it is SERVING at most t + L", Edge.pair(2, 10, 3),
                calls, Edge.row("messages()", 1, 10, 10, 1), Edge.row("messages()", 9, 18, 18, 1),
                Edge.row("messages()", 10, 19, 19, 1), Edge.row("messages()", 11, 19, 19, 1),
                Edge.row("messages()", 100000, 19, 19, 1));
        Edge.of(CHECK, "NEW: ALONE there is no such bound, and the address becomes SOLE", Edge.pair(2, 10, 3),
                calls, Edge.row(ALONE, 9, 18, 18, 5), Edge.row(ALONE, 10, 19, 19, 5), Edge.row(ALONE, 11, 20, 20, 5),
                Edge.row(ALONE, 100000, 100009, 100009, 5));
    }

    /** The record bore a released lease before, with an end that was known. */
    private static void bindingAnew() {
        Edge.of(CHECK, "BINDING it: kind BOUND, these, not released, since is the new version, known is 0",
                Edge.pair(2, 100, 0),
                Edge.LEASED_AT_BOTH + "ask(1, 2, 0, 0, 1); carryAll(); send(0); carryAll(); carryAll();"
                + "record(0, 0) = 1 1 20 2 2 20 0 0 1 2; ask(%s, 0, 0, 0, 9); carryAll(); record(0, 0) = %s",
                Edge.row(1, "2 1 9 3 3 0 0 0 3 1"), Edge.row(2, "2 2 9 1 3 0 0 0 3 1"));
    }

    private static void becomingSole() {
        Edge.of(CHECK, "NEW: when it is ALONE the address becomes SOLE by that", Edge.pair(2, 100, 0),
                // The ACK of a release that a lone server hears leaves the address OWN, but not SOLE.
                "ask(1, 0, 0, 0, 5); carryAll(); carryAll(); ask(1, 2, 0, 0, 1); carryAll(); send(0); carryAll(); %s;"
                + "carryAll(); record(0, 0, 0) = 1; record(0, 0, 9) = 2; ask(2, 0, 0, 0, 9); carryAll();"
                + "record(0, 0, 9) = %s", Edge.row("messages()", 1), Edge.row(ALONE, 5));
    }

    private static void overtakenRenew() {
        Edge.of(CHECK, "RENEW: BOUND to the client with a request greater than this one, nothing",
                Edge.pair(2, 100, 0),
                // Requests 2, 3 and 4 at the places 0, 1 and 2; number 3 is heard first.
                "ask(1, 0, 0, 0, 20); carryAll(); drop(0); ask(1, 1, 0, 0, 30); ask(1, 1, 0, 0, 40);"
                + "ask(1, 1, 0, 0, 50); carry(1); record(0, 0) = 2 1 40 3 2 0 0 0 1 1; carry(%s) = true;"
                + "record(0, 0) = %s; messages() = %s; server(0, 8) = %s",
                Edge.row(0, "2 1 40 3 2 0 0 0 1 1", 4, 2), Edge.row(1, "2 1 40 3 3 0 0 0 1 1", 5, 3),
                Edge.row(2, "2 1 50 4 3 0 0 0 1 1", 5, 3));
    }

    private static void renewByItsEnd() {
        Edge.of(CHECK, "RENEW: BOUND to the client and its end is greater than t", Edge.pair(2, 100, 3),
                "ask(1, 0, 0, 0, 50); carryAll(); drop(0); seconds(%s); skew(0, %s); ask(1, 1, 0, 0, 10);"
                + "carryAll(); message(0) = %s; record(0, 0) = %s; server(0, 8) = %s",
                Edge.row(49, 0, "1 1 0 1 0 2 59", "2 1 59 2 2 0 0 0 1 1", 2),
                Edge.row(50, 0, "1 1 0 0 -1 2 0", "2 1 50 1 1 0 0 0 1 1", 1),
                Edge.row(51, 0, "1 1 0 0 -1 2 0", "2 1 50 1 1 0 0 0 1 1", 1),
                Edge.row(47, 2, "1 1 0 1 0 2 59", "2 1 59 2 2 0 0 0 1 1", 2),
                Edge.row(47, 3, "1 1 0 0 -1 2 0", "2 1 50 1 1 0 0 0 1 1", 1));
    }

    private static void renewOfWhatIsNotLeased() {
        Edge.of(CHECK, "RENEW: Otherwise NO", Edge.pair(4, 100, 0),
                // Address 0 is ENDING for client 1, 2 BOUND to client 2, then 1 and 3 OTHER; server 1 has GIVEN 1.
                "ask(1, 0, 0, 0, 20); ask(2, 0, 0, 0, 20); carryAll(); carryAll(); ask(1, 2, 0, 0, 1); carryAll();"
                + "give(1, 1); ask(%s, 1, %s, %s, 5); carryAll(); message(0, 3) = %s; messages() = 1;"
                + "record(%2$s, %3$s, 4) = %5$s",
                Edge.row(1, 0, 0, 0, 2), Edge.row(2, 0, 0, 0, 2), Edge.row(1, 0, 2, 0, 1), Edge.row(2, 0, 2, 1, 2),
                Edge.row(1, 0, 1, 0, 0), Edge.row(1, 1, 1, 0, 1), Edge.row(1, 1, 3, 0, 0), Edge.row(2, 1, 2, 0, 0));
    }

    private static void endOfRenew() {
        Edge.of(CHECK, "RENEW: the end t and the seconds, if that is greater than the end", Edge.pair(2, 100, 0),
                "ask(1, 0, 0, 0, 50); carryAll(); drop(0); seconds(10); ask(1, 1, 0, 0, %s); carryAll();"
                + "record(0, 0) = %s; message(0) = %s",
                Edge.row(1, "2 1 50 2 2 0 0 0 1 1", "1 1 0 1 0 2 50"),
                Edge.row(39, "2 1 50 2 2 0 0 0 1 1", "1 1 0 1 0 2 50"),
                Edge.row(40, "2 1 50 2 2 0 0 0 1 1", "1 1 0 1 0 2 50"),
                Edge.row(41, "2 1 51 2 2 0 0 0 1 1", "1 1 0 1 0 2 51"));
    }

    private static void capOfRenewByTheClock() {
        Edge.of(CHECK, "RENEW: no more than t and L, when known is less", Edge.pair(2, 100, 0),
                "ask(1, 0, 0, 0, 50); carryAll(); drop(0); seconds(10); ask(1, 1, 0, 0, %s); carryAll();"
                + "record(0, 0, 2) = %s; message(0, 6) = %s",
                Edge.row(99, 109, 109), Edge.row(100, 110, 110), Edge.row(101, 110, 110),
                Edge.row(100000, 110, 110));
    }

    private static void capOfRenewByWhatIsKnown() {
        Edge.of(CHECK, "RENEW: no more than known and L, when known is greater", Edge.pair(2, 100, 0),
                Edge.LEASED_AT_BOTH + "record(0, 0, 5) = 20; seconds(10); ask(1, 1, 0, 0, %s); carryAll();"
                + "record(0, 0, 2) = %s; message(0, 6) = %s",
                Edge.row(109, 119, 119), Edge.row(110, 120, 120), Edge.row(111, 120, 120),
                Edge.row(100000, 120, 120));
        Edge.of(CHECK, "RENEW: the greater one of known and t", Edge.pair(2, 100, 0),
                Edge.LEASED_AT_BOTH + "ask(1, 1, 0, 0, 60); carryAll(); drop(0); record(0, 0) = 2 1 60 2 2 20 0 0 1 1;"
                + "seconds(%s); ask(1, 1, 0, 0, 100000); carryAll(); record(0, 0, 2) = %s",
                Edge.row(19, 120), Edge.row(20, 120), Edge.row(21, 121));
    }

    private static void capOfRenewUnderTheEnd() {
        Edge.of(CHECK, "RENEW: if that is greater than the end, though the end be more than t and L",
                Edge.pair(2, 100, 0),
                // Server 1 learns of an end of 120, and has nothing known itself.
                Edge.LEASED_AT_BOTH + "ask(1, 1, 0, 0, 1000); carryAll(); drop(0); send(0); carryAll(); carryAll();"
                + "record(1, 0) = 2 1 120 2 0 0 2 0 1 0; seconds(%s); ask(1, 1, 1, 0, 1000); carryAll();"
                + "record(1, 0, 2) = %s; message(0) = %s",
                Edge.row(0, 120, "1 1 1 1 0 3 120"), Edge.row(19, 120, "1 1 1 1 0 3 120"),
                Edge.row(20, 120, "1 1 1 1 0 3 120"), Edge.row(21, 121, "1 1 1 1 0 3 121"));
    }

    private static void noCapWhenAlone() {
        Edge.of(CHECK, "RENEW: (when it is SERVING, ..)", Edge.pair(2, 100, 0),
                "ask(1, 0, 0, 0, 50); carryAll(); drop(0); %s; seconds(10); ask(1, 1, 0, 0, %s); carryAll();"
                + "record(0, 0, 2) = %s",
                Edge.row("messages()", 101, 110), Edge.row(ALONE, 99, 109), Edge.row(ALONE, 100, 110),
                Edge.row(ALONE, 101, 111), Edge.row(ALONE, 100000, 100010), Edge.row(ALONE, 1, 50));
    }

    /** The number of a RELEASE can't be that of a BOUND record: so there is one below and one above, and no middle. */
    private static void overtakenRelease() {
        Edge.of(CHECK, "RELEASE: BOUND to the client with a request that is not greater than this one",
                Edge.pair(2, 100, 0),
                "ask(1, 0, 0, 0, 20); carryAll(); drop(0); ask(1, 1, 0, 0, 30); ask(1, 2, 0, 0, 1);"
                + "ask(1, 1, 0, 0, 40); carry(%s); carry(1) = true; record(0, 0) = %s; server(0, 8) = %s;"
                + "messages() = 4",
                Edge.row(0, "3 1 30 3 3 0 0 0 1 3", 3), Edge.row(2, "2 1 40 4 2 0 0 0 1 1", 2));
    }

    private static void releaseOfWhatIsNotLeased() {
        Edge.of(CHECK, "RELEASE of what is not BOUND to the client changes nothing", Edge.pair(4, 100, 0),
                "ask(1, 0, 0, 0, 20); ask(2, 0, 0, 0, 20); carryAll(); carryAll(); ask(1, 2, 0, 0, 1); carryAll();"
                + "give(1, 1); ask(%s, 2, %s, %s, 5); carryAll() = 1; record(%2$s, %3$s, 4) = %s;"
                + "server(%2$s, 8) = %s; messages() = 0",
                Edge.row(1, 0, 0, 2, 3), Edge.row(2, 0, 0, 2, 3), Edge.row(1, 0, 2, 1, 3), Edge.row(2, 0, 2, 2, 4),
                Edge.row(1, 0, 1, 0, 3), Edge.row(1, 1, 1, 1, 1), Edge.row(1, 1, 3, 0, 1), Edge.row(2, 1, 2, 0, 1));
    }

    private static void whatReleaseMakes() {
        String lease = "ask(1, 0, 0, 0, 20); carryAll(); carryAll();";
        String hello = "start(1); carryAll(); drop(0); drop(0);";
        Edge.of(CHECK, "RELEASE: the kind ENDING; when it is ALONE and the address SOLE, the kind becomes OWN",
                Edge.pair(2, 100, 0), "%s ask(1, 2, 0, 0, 1); carryAll(); record(0, 0) = %s; messages() = 0",
                Edge.row(lease, "3 1 20 2 2 0 0 0 1 3"),
                Edge.row(lease + ALONE + ";", "3 1 20 2 2 0 0 0 1 3"),
                Edge.row(ALONE + ";" + lease, "1 1 20 2 2 0 0 0 1 7"),
                Edge.row(ALONE + ";" + lease + hello, "3 1 20 2 2 0 0 0 1 3"));
    }
}
