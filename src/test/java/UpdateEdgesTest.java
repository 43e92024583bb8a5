/** "Terms": how a server hears UPDATE; each sentence with an edge from both sides. */
public final class UpdateEdgesTest {
    private static final Check CHECK = new Check("UpdateEdgesTest");
    private static final int[] PAIR = Edge.pair(2, 100, 0);

    /**
     * Server 1 died as it held address 1; server 0 took that over and has
     * heard the HELLO of server 1: "%s" is what server 1 did before it died.
     * Then the net is empty, the time 10, and server 0 SERVING.
     */
    private static final String TAKEN_OVER = "%s kill(1); partnerDown(0); seconds(10); tidy(0) = 1; start(1);"
            + "carryAll(); drop(0); drop(0); record(0, 1) = 1 -1 0 0 1 0 -1 1 0 1;";
    private static final String LEASES_BOTH = "ask(7, 0, 0, 0, 9); ask(2, 0, 0, 0, 9); carryAll(); carryAll();";
    private static final String[][] KINDS = {
        {"", "1 -1 0 0 1 0 -1 1 0 1"},
        {LEASES_BOTH, "2 2 19 1 2 0 -1 1 2 1"},
        {LEASES_BOTH + "ask(2, 2, 0, 1, 1); carryAll();", "3 2 19 2 3 0 -1 1 2 3"},
        {"give(0, 2);", "4 -1 0 0 2 0 -1 1 0 1"}};

    public static void main(String[] args) {
        epochAndVoid();
        versionAndSeen();
        versionZeroAndSeenNone();
        voidAndLive();
        voidLessThanLive();
        ownInsteadOfOther();
        givenWhoseVersionWasSeen();
        boundToBoundByEnd();
        boundToBoundByRequest();
        boundToWhatEndedByTime();
        boundToWhatEndedByTimeWithTheSameRequest();
        boundToWhatWasReleased();
        boundToWhatIsAnotherClients();
        endingToBoundByTheClock();
        endingToBoundByTheRequest();
        endingToBoundWithTheGreaterEnd();
        endingToEnding();
        endingToOther();
        whatIsNotTakenInOfOneThatCameBack();
        ownIsTakenInByOtherAlone();
        otherIsTakenInByAll();
        CHECK.end();
    }

    private static void epochAndVoid() {
        Edge.of(CHECK, "If its epoch is not greater than the record's VOID, nothing", Edge.pair(2, 10, 0),
                // UPDATEs of the epochs 1, 2 and 3 come to the places 0, 1 and 2; VOID is 2.
                "ask(1, 0, 0, 0, 5); carryAll(); drop(0); send(0) = 1; kill(0); start(0); carry(1); drop(1); drop(1);"
                + "drop(1); send(0) = 2; drop(1); kill(0); partnerDown(1); seconds(10); tidy(1) = 1;"
                + "ask(1, 0, 1, 0, 3); carry(2); drop(2); drop(2); record(1, 0) = 2 1 13 2 2 0 -1 2 2 5; start(0);"
                + "send(0) = 2; drop(2); drop(2) = 3; server(1, 8) = 4; carry(%s) = true; record(1, 0) = %s;"
                + "messages() = %s; server(1, 8) = %s",
                Edge.row(0, "2 1 13 2 2 0 -1 2 2 5", 3, 4), Edge.row(1, "2 1 13 2 2 0 -1 2 2 5", 3, 4),
                Edge.row(2, "2 1 13 2 2 0 1 2 2 5", 4, 5));
    }

    private static void versionAndSeen() {
        Edge.of(CHECK, "by its version: less than SEEN: nothing; SEEN itself: ACK once more; greater: TAKEN IN", PAIR,
                // The versions 1, 2 and 3 are at the places 2, 5 and 8; version 2 is heard first.
                "ask(1, 0, 0, 0, 20); carry(0); send(0); ask(1, 1, 0, 0, 30); carry(3); send(0); ask(1, 1, 0, 0, 40);"
                + "carry(6); send(0); carry(5); messages() = 10; record(1, 0) = 2 1 30 2 0 0 2 0 1 0; carry(%s) = true;"
                + "record(1, 0) = %s; messages() = %s; message(%s) = %s; server(1, 8) = %s",
                Edge.row(2, "2 1 30 2 0 0 2 0 1 0", 10, 9, "4 0 1 0 0 2 30", 1),
                Edge.row(5, "2 1 30 2 0 0 2 0 1 0", 11, 10, "4 0 1 0 0 2 30", 1),
                Edge.row(8, "2 1 40 3 0 0 3 0 1 0", 11, 10, "4 0 1 0 0 3 40", 2));
    }

    private static void versionZeroAndSeenNone() {
        Edge.of(CHECK, "version 0 is SEEN itself at first, and greater than a SEEN of NONE", Edge.pair(2, 10, 0),
                // Server 1 restarts to hear of address 1, which it gave; taking it back made SEEN NONE.
                "%s kill(1); start(1); start(0); carryAll(); drop(0) = 3; message(0) = 3 1 0 0 1 0 0;"
                + "record(1, 1, 6) = %s; server(1, 8) = %s; carry(0) = true; record(1, 1, 6) = 0; server(1, 8) = %s;"
                + "message(3) = 4 0 1 0 1 0 0",
                Edge.row("kill(0);", 0, 2, 2),
                Edge.row("give(1, 1); kill(0); partnerDown(1); seconds(10); tidy(1) = 2;", -1, 5, 6));
    }

    private static void voidAndLive() {
        Edge.of(CHECK, "When its VOID is not less than the receiver's LIVE, and the receiver is RECOVERING",
                Edge.pair(2, 10, 0),
                "ask(3, 0, 0, 0, 5); carryAll(); carryAll(); %s kill(0); partnerDown(1) = true; seconds(10);"
                + "tidy(1) = 1; record(1, 0, 7) = %s; start(0); server(0, 4) = 1; carryAll();"
                + "record(0, 0) = 2 3 5 1 1 0 0 0 1 1; carry(0) = true; record(0, 0) = 0 3 5 1 1 0 1 0 1 0",
                Edge.row("", 1), Edge.row("kill(0); start(0); carryAll(); drop(0); drop(0);", 2));
    }

    /** The same as above would make the record bound anew here, with nothing known. */
    private static void voidLessThanLive() {
        Edge.of(CHECK, "VOID is less than LIVE: the record stays as it is", Edge.pair(2, 10, 0),
                "kill(0); partnerDown(1); seconds(10); tidy(1) = 1; start(0); carryAll(); carryAll(); carryAll();"
                + "give(1, 1); send(1); carryAll(); carryAll(); ask(3, 0, 0, 0, 5); carryAll(); carryAll(); send(0);"
                + "carryAll(); carryAll(); record(0, 0) = 2 3 15 1 1 15 2 0 1 0; ask(3, 1, 1, 0, 8); carryAll();"
                + "carryAll(); kill(0); start(0); carryAll(); message(0) = 3 0 1 2 0 3 18; record(1, 0, 7) = %s;"
                + "server(0, 4) = %s; server(0, 0) = 1; carry(0) = true; record(0, 0) = %s",
                Edge.row(1, 2, "2 3 18 2 1 15 3 0 1 0"));
    }

    private static void ownInsteadOfOther() {
        Edge.of(CHECK, "(and in the first case OWN instead if the update's kind is OTHER)", Edge.pair(2, 10, 0),
                // What server 1 took over and leased is over; the late UPDATE of server 0 at place 2 makes it OTHER.
                "ask(1, 0, 0, 0, 10); carryAll(); drop(0); send(0); carryAll(); carryAll(); seconds(10); tidy(0) = 1;"
                + "kill(0); partnerDown(1); seconds(10); tidy(1) = 1; ask(1, 0, 1, 0, 5); carryAll(); drop(0);"
                + "seconds(10); start(0); send(0) = 2; %s carry(0); message(%s) = %s; carry(%2$s) = true;"
                + "record(0, 0) = %s",
                Edge.row("carry(2);", 4, "3 0 1 0 0 2 25", "1 1 10 1 2 10 2 0 1 0"),
                Edge.row("", 3, "3 0 1 2 0 2 25", "2 1 25 2 2 0 2 0 3 0"));
    }

    private static void givenWhoseVersionWasSeen() {
        // Server 1 has taken what server 0 has GIVEN; the ACK is lost.
        String given = "give(0, 1); send(0); carryAll(); drop(0); record(0, 0) = 4 -1 0 0 1 0 0 0 0 1;";
        String lease = "ask(1, 0, 1, 0, 9); carryAll(); carryAll();";
        String release = "ask(1, 2, 1, 0, 1); carryAll();";
        Edge.of(CHECK, "when the record is GIVEN, the update's SEEN its version, and the update's kind not OTHER", PAIR,
                given + "%s send(1) = 1; message(0, 3) = %s; carryAll(); record(0, 0) = %s; send(0) = 0",
                Edge.row(lease, 2, "2 1 9 1 1 0 1 0 2 0"),
                Edge.row(lease + release, 3, "0 -1 9 0 1 0 2 0 0 0"),
                Edge.row("give(1, 1);", 4, "1 -1 0 0 1 0 1 0 0 0"));
        Edge.of(CHECK, "GIVEN, SEEN its version, and the update's kind OWN", PAIR,
                given + "kill(0); partnerDown(1);" + lease + release + "start(0); carryAll(); message(0) = %s;"
                + "carry(0) = true; record(0, 0) = %s", Edge.row("3 0 1 1 0 2 9", "0 -1 0 0 1 0 2 0 0 0"));
        Edge.of(CHECK, "GIVEN, but SEEN less than its version", Edge.pair(2, 10, 0),
                "give(0, 1); send(0); carryAll(); carryAll();" + lease + "kill(1); partnerDown(0); seconds(10);"
                + "tidy(0) = 2; start(1); carryAll(); drop(0); drop(0); give(0, 1); record(0, 0) = %s; send(1) = 2;"
                + "message(1) = 3 0 1 2 0 1 9; record(1, 0, 6) = 1; carry(1) = true; record(0, 0) = %s;"
                + "messages() = 2", Edge.row("4 -1 0 0 3 0 -1 1 0 1", "4 -1 0 0 3 0 -1 1 0 1"));
    }

    private static void boundToBoundByEnd() {
        Edge.of(CHECK, "BOUND to the same client gets the greater end", PAIR,
                Edge.LEASED_AT_BOTH + "ask(1, 1, 0, 0, %s); ask(1, 1, 1, 0, 30); carryAll(); drop(0); drop(0);"
                + "send(0); carryAll(); record(1, 0) = %s; messages() = 1; server(1, 8) = 3",
                Edge.row(29, "2 1 30 3 1 0 2 0 1 1"), Edge.row(30, "2 1 30 3 1 0 2 0 1 1"),
                Edge.row(31, "2 1 31 3 1 0 2 0 1 1"));
    }

    private static void boundToBoundByRequest() {
        Edge.of(CHECK, "BOUND to the same client gets the greater request", PAIR,
                Edge.LEASED_AT_BOTH + "ask(1, 1, %s, 0, 30); ask(1, 1, %s, 0, 30); carryAll(); drop(0); drop(0);"
                + "record(0, 0, 3) = %s; record(1, 0, 3) = %s; send(0); carryAll(); record(1, 0, 3) = 3",
                Edge.row(0, 1, 2, 3), Edge.row(1, 0, 3, 2));
        Edge.of(CHECK, "BOUND to the same client, the same request", PAIR,
                // The RENEW at place 1 is heard by server 0 twice.
                sameRequest() + "carry(7) = true; record(1, 0) = %s; messages() = 9",
                Edge.row(31, 0, "2 1 31 3 1 0 3 0 1 1"), Edge.row(30, 0, "2 1 30 3 1 0 3 0 1 1"),
                Edge.row(30, 1, "2 1 31 3 1 0 3 0 1 1"));
    }

    /**
     * Server 1 renews as request 2 for so many seconds, server 0 as request 3
     * until 30, and server 1 takes that in; so many seconds later server 0
     * hears request 3 once more; its UPDATE of that is at place 7.
     */
    private static String sameRequest() {
        return Edge.LEASED_AT_BOTH + "ask(1, 1, 1, 0, %s); ask(1, 1, 0, 0, 30); carry(0); carry(1); send(0); carry(4);"
                + "seconds(%s); carry(1); send(0); messages() = 8;";
    }

    private static void boundToWhatEndedByTime() {
        Edge.of(CHECK, "ENDING for the same client: if the update's request is greater, or its end greater and the"
                + " record not released, it is BOUND again", PAIR,
                Edge.LEASED_AT_BOTH + "%s carryAll(); drop(0); drop(0); send(0); seconds(30); tidy(1) = 1;"
                + "record(1, 0, 2) = 30; carry(0) = true; record(1, 0) = %s; messages() = 2; server(1, 8) = 4",
                Edge.row("ask(1, 1, 0, 0, 29); ask(1, 1, 1, 0, 30);", "3 1 30 3 2 0 2 0 1 1"),
                Edge.row("ask(1, 1, 0, 0, 30); ask(1, 1, 1, 0, 30);", "3 1 30 3 2 0 2 0 1 1"),
                Edge.row("ask(1, 1, 0, 0, 31); ask(1, 1, 1, 0, 30);", "2 1 31 3 3 0 2 0 1 1"),
                Edge.row("ask(1, 1, 1, 0, 30); ask(1, 1, 0, 0, 29);", "2 1 30 3 3 0 2 0 1 1"),
                Edge.row("ask(1, 1, 1, 0, 30); ask(1, 1, 0, 0, 30);", "2 1 30 3 3 0 2 0 1 1"),
                Edge.row("ask(1, 1, 1, 0, 30); ask(1, 1, 0, 0, 31);", "2 1 31 3 3 0 2 0 1 1"));
    }

    private static void boundToWhatEndedByTimeWithTheSameRequest() {
        Edge.of(CHECK, "ENDING for the same client, not released, the same request", PAIR,
                sameRequest() + "seconds(31); tidy(1) = 1; carry(7) = true; record(1, 0) = %s; messages() = 9",
                Edge.row(31, 0, "3 1 31 3 2 0 3 0 1 1"), Edge.row(30, 0, "3 1 30 3 2 0 3 0 1 1"),
                Edge.row(30, 1, "2 1 31 3 3 0 3 0 1 1"));
    }

    /** The number of a RELEASE is never that of a BOUND record: so the same request can't be here. */
    private static void boundToWhatWasReleased() {
        String before = "ask(1, 1, 1, 0, 30); ask(1, 1, 0, 0, %s); ask(1, 2, 1, 0, 1);";
        String behind = "ask(1, 1, 1, 0, 30); ask(1, 2, 1, 0, 1); ask(1, 1, 0, 0, %s);";
        String calls = "carryAll(); drop(0); drop(0); send(0); record(1, 0, 9) = 3; carry(0) = true;"
                + "record(1, 0) = %s; messages() = 2; server(1, 8) = 4";
        Edge.of(CHECK, "ENDING and released: otherwise it gets the greater end and stays", PAIR,
                Edge.LEASED_AT_BOTH + before + calls,
                Edge.row(29, "3 1 30 4 2 0 2 0 1 3"), Edge.row(30, "3 1 30 4 2 0 2 0 1 3"),
                Edge.row(31, "3 1 31 4 2 0 2 0 1 3"));
        Edge.of(CHECK, "ENDING and released: by a greater request it is BOUND again, not released", PAIR,
                Edge.LEASED_AT_BOTH + behind + calls,
                Edge.row(29, "2 1 30 4 3 0 2 0 1 1"), Edge.row(30, "2 1 30 4 3 0 2 0 1 1"),
                Edge.row(31, "2 1 31 4 3 0 2 0 1 1"));
    }

    private static void boundToWhatIsAnotherClients() {
        Edge.of(CHECK, "BOUND: same client, or not taken in", Edge.pair(2, 10, 0),
                String.format(TAKEN_OVER, "ask(1, 0, 1, 0, 5); carryAll(); carryAll();")
                + "ask(7, 0, 0, 0, 9); ask(%s, 0, 0, 0, 9); carryAll(); carryAll(); send(1) = 2; carry(1) = true;"
                + "record(0, 1) = %s; messages() = %s",
                Edge.row(0, "2 0 19 1 2 0 -1 1 2 1", 2), Edge.row(1, "2 1 19 2 2 0 1 1 2 1", 3),
                Edge.row(2, "2 2 19 1 2 0 -1 1 2 1", 2));
    }

    private static void endingToBoundByTheClock() {
        Edge.of(CHECK, "ENDING: BOUND to the same client, if its end is not greater than the clock",
                Edge.pair(2, 100, 3),
                Edge.LEASED_AT_BOTH + "skew(0, 3); seconds(17); tidy(0) = 1; send(0); seconds(%s); skew(1, %s);"
                + "carry(0) = true; record(1, 0) = %s; messages() = %s; server(1, 8) = %s",
                Edge.row(2, 0, "2 1 20 1 0 0 1 0 1 0", 1, 1), Edge.row(3, 0, "0 1 20 1 0 0 2 0 1 0", 2, 2),
                Edge.row(4, 0, "0 1 20 1 0 0 2 0 1 0", 2, 2), Edge.row(0, 2, "2 1 20 1 0 0 1 0 1 0", 1, 1),
                Edge.row(0, 3, "0 1 20 1 0 0 2 0 1 0", 2, 2));
    }

    private static void endingToBoundByTheRequest() {
        Edge.of(CHECK, "ENDING: or the update released and its request greater than the record's", PAIR,
                Edge.LEASED_AT_BOTH + "%s carryAll(); send(0); message(%s, 3) = 3; carry(%s) = true;"
                + "record(1, 0) = %s",
                Edge.row("ask(1, 2, 0, 0, 1);", 0, 0, "0 1 20 1 0 0 2 0 1 0"),
                Edge.row("ask(1, 1, 1, 0, 5); ask(1, 2, 0, 0, 1);", 1, 1, "0 1 20 2 1 0 2 0 1 0"),
                Edge.row("ask(1, 2, 0, 0, 1); ask(1, 1, 1, 0, 5);", 1, 1, "2 1 20 3 1 0 1 0 1 1"));
        Edge.of(CHECK, "ENDING: a greater request that is not released is not enough", PAIR,
                Edge.LEASED_AT_BOTH + "ask(1, 1, 1, 0, %s); ask(1, 1, 0, 0, 20); carryAll(); seconds(20); tidy(0) = 1;"
                + "send(0); record(0, 0, 3) = 3; carry(2) = true; record(1, 0) = %s",
                Edge.row(20, "0 1 20 2 1 0 3 0 1 0"), Edge.row(21, "2 1 21 2 1 0 1 0 1 1"));
    }

    private static void endingToBoundWithTheGreaterEnd() {
        Edge.of(CHECK, "ENDING: becomes OTHER, with the greater end", PAIR,
                Edge.LEASED_AT_BOTH + "ask(1, 1, 0, 0, %s); ask(1, 1, 1, 0, 30); ask(1, 2, 0, 0, 1); carryAll();"
                + "send(0); carry(2) = true; record(1, 0) = %s",
                Edge.row(29, "0 1 30 3 1 0 3 0 1 0"), Edge.row(30, "0 1 30 3 1 0 3 0 1 0"),
                Edge.row(31, "0 1 31 3 1 0 3 0 1 0"));
    }

    private static void endingToEnding() {
        String both = Edge.LEASED_AT_BOTH + "ask(1, 1, %s, 0, %s); ask(1, 1, %s, 0, 30); carryAll(); drop(0); drop(0);"
                + "seconds(31); tidy(0) = 1; tidy(1) = 1;";
        Edge.of(CHECK, "ENDING to ENDING does so at server 1", PAIR,
                both + "send(0); carry(0) = true; record(1, 0) = %s; messages() = 2; server(1, 8) = 4",
                Edge.row(0, 29, 1, "0 1 30 3 2 0 3 0 1 0"), Edge.row(0, 30, 1, "0 1 30 3 2 0 3 0 1 0"),
                Edge.row(0, 31, 1, "0 1 31 3 2 0 3 0 1 0"));
        Edge.of(CHECK, "ENDING to ENDING (at server 0: not taken in)", PAIR,
                both + "send(1); carry(0) = true; record(0, 0) = %s; messages() = 1; server(0, 8) = 4",
                Edge.row(1, 29, 0, "3 1 30 3 3 20 0 0 1 1"), Edge.row(1, 30, 0, "3 1 30 3 3 20 0 0 1 1"),
                Edge.row(1, 31, 0, "3 1 30 3 3 20 0 0 1 1"));
    }

    private static void endingToOther() {
        Edge.of(CHECK, "ENDING: OTHER gets the greater end and stays, taken in", PAIR,
                "ask(1, 0, 0, 0, 20); ask(1, 2, 0, 0, 1); carryAll(); drop(0); send(0); carryAll(); carryAll();"
                + "record(1, 0) = 0 -1 20 0 0 0 2 0 0 0; ask(2, 0, 0, 0, %s); ask(2, 2, 0, 0, 1); carryAll(); drop(0);"
                + "send(0); carryAll(); record(1, 0) = %s; messages() = 1; server(1, 8) = 2",
                Edge.row(19, "0 -1 20 0 0 0 4 0 0 0"), Edge.row(20, "0 -1 20 0 0 0 4 0 0 0"),
                Edge.row(21, "0 -1 21 0 0 0 4 0 0 0"));
    }

    private static void whatIsNotTakenInOfOneThatCameBack() {
        String lease = "ask(1, 0, 1, 0, 5); carryAll(); carryAll();";
        String[][] updates = {{lease, "2"}, {lease + "ask(1, 2, 1, 1, 5); carryAll();", "3"}, {"give(1, 1);", "4"}};
        for (String[] update : updates) {
            for (String[] kind : KINDS) {
                Edge.of(CHECK, "BOUND, ENDING, GIVEN: any other: not taken in", Edge.pair(2, 10, 0),
                        String.format(TAKEN_OVER, update[0]) + kind[0] + "send(1) = 2; message(1, 3) = " + update[1]
                        + "; fuse(0, 1); carry(1) = true; record(0, 1) = %s; messages() = 2; server(0, 0) = 2",
                        Edge.row(kind[1]));
            }
        }
    }

    private static void ownIsTakenInByOtherAlone() {
        for (String[] kind : KINDS) {
            Edge.of(CHECK, "OWN: OTHER stays, taken in; any other: not", Edge.pair(2, 10, 0),
                    String.format(TAKEN_OVER, "") + kind[0] + "kill(0); start(0); carry(0); fuse(0, 1);"
                    + "message(2) = 3 0 1 1 1 0 0; carry(2) = true; record(0, 1) = %s; messages() = 3;"
                    + "server(0, 0) = 1", Edge.row(kind[1]));
        }
        Edge.of(CHECK, "OWN: OTHER stays, taken in", Edge.pair(2, 10, 0),
                // A record of server 1 that is OWN by two changes of its own.
                "kill(0); partnerDown(1); ask(1, 0, 1, 0, 9); ask(1, 2, 1, 1, 1); carryAll(); drop(0); start(0);"
                + "carryAll(); message(1) = 3 0 1 1 1 2 9; carry(1) = true; record(0, 1) = %s; server(0, 8) = 2;"
                + "messages() = 3", Edge.row("0 -1 0 0 0 0 2 0 0 0"));
    }

    private static void otherIsTakenInByAll() {
        String lease = "ask(2, 0, 0, 0, 9); carryAll(); carryAll();";
        Edge.of(CHECK, "OTHER: taken in", Edge.pair(2, 10, 0),
                // Server 0 took back what it had GIVEN, so that its SEEN is NONE; server 1 never had it.
                "give(0, 1); kill(1); partnerDown(0); seconds(10); tidy(0) = 2; start(1); carryAll(); drop(0); drop(0);"
                + "record(0, 0) = 1 -1 0 0 2 0 -1 1 0 1; %s kill(0); start(0); carry(0);"
                + "message(1) = 3 0 1 0 0 0 0; carry(1) = true; record(0, 0) = %s; message(3) = 4 1 0 0 0 0 0",
                Edge.row("", "1 -1 0 0 2 0 0 1 0 1"), Edge.row(lease, "2 2 19 1 3 0 0 1 3 1"),
                Edge.row(lease + "ask(2, 2, 0, 0, 1); carryAll();", "3 2 19 2 4 0 0 1 3 3"),
                Edge.row("give(0, 1);", "4 -1 0 0 3 0 0 1 0 1"));
    }
}
