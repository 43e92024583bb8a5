/** "Terms": how a server hears ACK; each sentence with an edge from both sides. */
public final class AckEdgesTest {
    private static final Check CHECK = new Check("AckEdgesTest");
    private static final int[] PAIR = Edge.pair(2, 100, 0);

    public static void main(String[] args) {
        epochAndVoid();
        versionAndSince();
        endAndKnown();
        ownVersion();
        pendingOrNot();
        whatTheKindBecomes();
        seenByTheAck();
        endThatTheAckBears();
        CHECK.end();
    }

    private static void epochAndVoid() {
        Edge.of(CHECK, "If its epoch is not greater than VOID, nothing", Edge.pair(2, 10, 0),
                // ACKs of the epochs 1, 2 and 3 come to the places 0, 1 and 2; VOID is 2.
                "ask(1, 0, 1, 0, 5); carryAll(); drop(0); send(1); carry(0); kill(0); start(0); carry(2); carry(0);"
                + "drop(0); drop(1); drop(1); drop(1) = 2; kill(0); partnerDown(1); seconds(15); tidy(1) = 2;"
                + "ask(7, 0, 1, 0, 9); ask(2, 0, 1, 0, 9); carry(2); carry(3); drop(2); drop(2); drop(2); drop(2) = 2;"
                + "record(1, 1) = 2 2 24 1 3 0 -1 2 3 5; start(0); drop(2); send(1) = 2; carry(3) = true; drop(2);"
                + "drop(2) = 3; message(2) = 4 1 0 0 1 3 24; server(1, 8) = 6; carry(%s) = true; record(1, 1) = %s;"
                + "server(1, 8) = %s",
                Edge.row(0, "2 2 24 1 3 0 -1 2 3 5", 6), Edge.row(1, "2 2 24 1 3 0 -1 2 3 5", 6),
                Edge.row(2, "2 2 24 1 3 24 -1 2 3 4", 7));
    }

    private static void versionAndSince() {
        Edge.of(CHECK, "BOUND or ENDING and the ACK's version not less than since", PAIR,
                // Server 1 renews for client 1 as version 1, whose ACK stays at place 0. Then client 1 releases
                // at server 0, client 2 gets the address there, and server 1 renews as the versions 2 and 3.
                Edge.LEASED_AT_BOTH + "ask(1, 1, 1, 0, 30); carryAll(); drop(0); send(1); carryAll();"
                + "ask(1, 2, 0, 0, 1); carry(1); drop(1); send(0); carry(1); carry(2); drop(1); drop(1);"
                + "ask(2, 0, 0, 0, 20); carry(1); drop(1); drop(1); send(0); carry(1); drop(1); drop(1);"
                + "record(1, 0) = 2 2 20 1 1 0 3 0 2 0;"
                + "ask(2, 1, 1, 0, 40); carry(1); drop(1); drop(1); send(1); carry(1); drop(1);"
                + "ask(2, 1, 1, 0, 50); carry(2); drop(2); drop(2); send(1); carry(2); drop(2) = 3;"
                + "record(1, 0) = 2 2 50 3 3 0 3 0 2 1; server(1, 8) = 6; message(%s) = %s; carry(%1$s) = true;"
                + "record(1, 0) = %s; server(1, 8) = %s",
                Edge.row(0, "4 1 0 0 0 1 30", "2 2 50 3 3 0 3 0 2 1", 6),
                Edge.row(1, "4 1 0 0 0 2 40", "2 2 50 3 3 40 3 0 2 1", 7),
                Edge.row(2, "4 1 0 0 0 3 50", "2 2 50 3 3 50 3 0 2 0", 7));
        Edge.of(CHECK, "BOUND or ENDING: of what is neither no end is known", PAIR,
                "ask(1, 0, 0, 0, 20); carryAll(); drop(0); send(0); carryAll(); %s carry(0) = true;"
                + "record(0, 0, 0) = %s; record(0, 0, 5) = %s",
                Edge.row("", 2, 20), Edge.row("ask(1, 2, 0, 0, 1); carry(1);", 3, 20),
                Edge.row("ask(1, 2, 0, 0, 1); carry(1); send(0); carry(2); carry(3);", 1, 0));
    }

    private static void endAndKnown() {
        Edge.of(CHECK, "known becomes the end if that is greater", PAIR,
                // ACKs of the ends 20, 30, 30 and 40 are at the places 0 to 3; the first one of 30 is heard first.
                "ask(1, 0, 0, 0, 20); carryAll(); drop(0); send(0); carryAll();"
                + "ask(1, 1, 0, 0, 30); carry(1); drop(1); drop(1); send(0); carry(1); drop(1);"
                + "ask(1, 1, 0, 0, 5); carry(2); drop(2); drop(2); send(0); carry(2); drop(2);"
                + "ask(1, 1, 0, 0, 40); carry(3); drop(3); drop(3); send(0); carry(3); drop(3);"
                + "ask(1, 1, 0, 0, 50); carry(4); drop(4); drop(4) = 4; carry(1); server(0, 8) = 6;"
                + "record(0, 0) = 2 1 50 5 5 30 0 0 1 1; message(%s, 6) = %s; carry(%1$s) = true;"
                + "record(0, 0, 5) = %s; server(0, 8) = %s; record(0, 0, 9) = 1",
                Edge.row(0, 20, 30, 6), Edge.row(1, 30, 30, 6), Edge.row(2, 30, 30, 6), Edge.row(3, 40, 40, 7));
    }

    private static void ownVersion() {
        Edge.of(CHECK, "If the version is the record's own", PAIR,
                // A GIVEN record of version 1 is taken, given back and GIVEN again as version 2.
                "give(0, 1); send(0); carry(0); carry(1); give(1, 1); send(1); carry(2); give(0, 1);"
                + "record(0, 0) = 4 -1 0 0 2 0 1 0 0 1; carry(3); send(0); carry(4); messages() = 6;"
                + "message(%s) = %s; server(0, 8) = 4; carry(%1$s) = true; record(0, 0) = %s; server(0, 8) = %s",
                Edge.row(1, "4 0 1 0 0 1 0", "4 -1 0 0 2 0 1 0 0 1", 4),
                Edge.row(5, "4 0 1 0 0 2 0", "0 -1 0 0 2 0 1 0 0 0", 5));
    }

    private static void pendingOrNot() {
        Edge.of(CHECK, "and it is pending", PAIR,
                // Server 0 has heard the ACK so often before.
                "give(0, 1); send(0); carryAll(); %s carry(0) = true; record(0, 0) = 0 -1 0 0 1 0 0 0 0 0;"
                + "server(0, 8) = 2; server(0, 7) = 0",
                Edge.row(""), Edge.row("carry(0);"), Edge.row("carry(0); carry(0);"));
        Edge.of(CHECK, "and it is pending: no more by what its partner told of it", PAIR,
                // The version is the record's own, but it is OWN by then: it was given back before the ACK.
                "give(0, 1); send(0); carry(0); give(1, 1); send(1); carry(2) = true; server(0, 8) = %s;"
                + "carry(1) = true; record(0, 0) = %s; server(0, 8) = 2",
                Edge.row(2, "1 -1 0 0 1 0 1 0 0 0"));
    }

    private static void whatTheKindBecomes() {
        String lease = "ask(1, 0, 0, 0, 20); carryAll(); carryAll();";
        String alone = "kill(1); partnerDown(0);";
        String back = "start(1); carryAll(); drop(0); drop(0);";
        Edge.of(CHECK, "if it is ENDING it becomes OWN, if GIVEN OTHER", PAIR,
                "%s record(0, 0, 0) = %s; record(0, 0, 9) = %s; send(0) = 1; carryAll(); carryAll();"
                + "record(0, 0, 0) = %s; record(0, 0, 9) = %s",
                Edge.row(lease, 2, 1, 2, 0),
                Edge.row(lease + "ask(1, 2, 0, 0, 1); carryAll();", 3, 3, 1, 2),
                Edge.row("give(0, 1);", 4, 1, 0, 0),
                Edge.row(alone + lease + "ask(1, 2, 0, 0, 1); carryAll();" + back, 1, 3, 1, 2));
    }

    /** What the ACK of a pending version tells is never less than SEEN: so there is no third row. */
    private static void seenByTheAck() {
        Edge.of(CHECK, "SEEN becomes the other record's version that the ACK tells, if that is greater", PAIR,
                // Server 1 has made a version 1 that server 0 has seen already, or not.
                Edge.LEASED_AT_BOTH + "ask(1, 1, 1, 0, 30); carryAll(); drop(0); send(1) = 1; %s record(0, 0, 6) = %s;"
                + "ask(1, 2, 0, 0, 1); carry(1); send(0); carry(2) = true; message(3, 0) = 4; carry(3) = true;"
                + "record(0, 0, 0) = 1; record(0, 0, 6) = 1",
                Edge.row("drop(0); send(1);", 0), Edge.row("carry(0); drop(1);", 1));
        Edge.of(CHECK, "in both cases: of BOUND the SEEN stays", PAIR,
                Edge.LEASED_AT_BOTH + "ask(1, 1, 1, 0, 30); carryAll(); drop(0); ask(1, 1, 0, 0, 40); carryAll();"
                + "drop(0); send(0); carryAll(); carryAll(); record(1, 0, 4) = 1; record(0, 0) = %s",
                Edge.row("2 1 40 3 2 40 0 0 1 0"));
    }

    private static void endThatTheAckBears() {
        String lease = "ask(1, 0, 0, 0, 20); carryAll(); drop(0);";
        Edge.of(CHECK, "an ACK is sent: its version, its end if its kind is BOUND, otherwise 0", PAIR,
                "%s send(0); carryAll(); message(0) = %s",
                Edge.row(lease, "4 0 1 0 0 1 20"),
                Edge.row(lease + "ask(1, 2, 0, 0, 1); carryAll();", "4 0 1 0 0 2 0"),
                Edge.row("give(0, 1);", "4 0 1 0 0 1 0"));
    }
}
