/** Promise 10 (tidy): each sentence with an edge from both sides. */
public final class TidyEdgesTest {
    private static final Check CHECK = new Check("TidyEdgesTest");

    public static void main(String[] args) {
        inEachState();
        servingByTheEnd();
        servingWhatIsNotBound();
        soleByTheEnd();
        soleAndFree();
        takingOverByTheDeclaration();
        takingOverByTheEnd();
        takingOverOfEachKind();
        takingOverWhatIsOwn();
        voidBecomesHeard();
        nothingIsOver();
        allIsOver();
        CHECK.end();
    }

    private static void inEachState() {
        Edge.of(CHECK, "tidy: NONE unless it is SERVING or ALONE", Edge.pair(2, 10, 0),
                "ask(1, 0, 0, 0, 5); carryAll(); seconds(5); %s; server(0, 0) = %s; tidy(0) = %s; record(0, 0, 0) = %s",
                Edge.row("kill(0)", 0, -1, 2), Edge.row("kill(0); start(0)", 1, -1, 2),
                Edge.row("messages()", 2, 1, 3), Edge.row("kill(1); partnerDown(0); seconds(10)", 3, 2, 1),
                Edge.row("kill(1); partnerDown(0); seconds(9)", 3, 0, 2));
    }

    private static void servingByTheEnd() {
        Edge.of(CHECK, "SERVING: BOUND with an end not greater than t becomes ENDING", Edge.pair(2, 100, 3),
                "ask(1, 0, 0, 0, 20); carryAll(); seconds(%s); skew(0, %s); tidy(0) = %s; record(0, 0) = %s;"
                + "server(0, 8) = %s",
                Edge.row(19, 0, 0, "2 1 20 1 1 0 0 0 1 1", 1), Edge.row(20, 0, 1, "3 1 20 1 2 0 0 0 1 1", 2),
                Edge.row(21, 0, 1, "3 1 20 1 2 0 0 0 1 1", 2), Edge.row(17, 2, 0, "2 1 20 1 1 0 0 0 1 1", 1),
                Edge.row(17, 3, 1, "3 1 20 1 2 0 0 0 1 1", 2));
    }

    private static void servingWhatIsNotBound() {
        Edge.of(CHECK, "SERVING: nothing else is ended", Edge.pair(2, 100, 3),
                "%s; seconds(1000); record(0, 0, 0) = %s; tidy(0) = 0; record(0, 0, 0) = %2$s; record(0, 1, 0) = 0",
                Edge.row("messages()", 1), Edge.row("give(0, 1)", 4),
                Edge.row("ask(1, 0, 0, 0, 20); carryAll(); ask(1, 2, 0, 0, 20); carryAll()", 3));
    }

    private static void soleByTheEnd() {
        Edge.of(CHECK, "ALONE, SOLE: BOUND with an end not greater than t becomes OWN", Edge.pair(2, 1000, 3),
                "kill(1); partnerDown(0); ask(1, 0, 0, 0, 20); carryAll(); seconds(%s); skew(0, %s); tidy(0) = %s;"
                + "record(0, 0) = %s; server(0, 8) = %s",
                Edge.row(19, 0, 0, "2 1 20 1 1 0 0 0 1 5", 2), Edge.row(20, 0, 1, "1 1 20 1 2 0 0 0 1 5", 3),
                Edge.row(21, 0, 1, "1 1 20 1 2 0 0 0 1 5", 3), Edge.row(17, 2, 0, "2 1 20 1 1 0 0 0 1 5", 2),
                Edge.row(17, 3, 1, "1 1 20 1 2 0 0 0 1 5", 3));
        Edge.of(CHECK, "ALONE: BOUND that is not SOLE stays behind its end", Edge.pair(2, 1000, 3),
                "ask(1, 0, 0, 0, 20); carryAll(); kill(1); partnerDown(0); seconds(%s); tidy(0) = 0;"
                + "record(0, 0) = 2 1 20 1 1 0 0 0 1 1", Edge.row(19), Edge.row(20), Edge.row(21));
    }

    /** A SOLE address that became OTHER by a late UPDATE: long behind its end, too, nothing is done of it. */
    private static void soleAndFree() {
        Edge.of(CHECK, "ALONE, SOLE: (nothing else is done of these)", Edge.pair(2, 5, 1),
                "ask(0, 0, 0, 0, 1); ask(0, 2, 0, 0, 1); carryAll(); drop(0); kill(0); partnerDown(1); seconds(6);"
                + "tidy(1) = 1; ask(0, 0, 1, 0, 1); carryAll(); drop(0); record(1, 0) = 2 0 7 3 2 0 -1 1 2 5; start(0);"
                + "send(0) = 2; seconds(1); carry(2) = true; record(1, 0) = 0 0 7 3 2 0 2 1 2 4; seconds(%s);"
                + "tidy(1) = 0; record(1, 0) = 0 0 7 3 2 0 2 1 2 4", Edge.row(0), Edge.row(5), Edge.row(1000));
        Edge.of(CHECK, "ALONE, SOLE: what is OWN stays so", Edge.pair(2, 5, 1),
                "kill(1); partnerDown(0); seconds(%s); tidy(0) = %s; record(0, 0) = 1 -1 0 0 0 0 0 0 0 4",
                Edge.row(0, 0), Edge.row(5, 0), Edge.row(6, 1));
    }

    private static void takingOverByTheDeclaration() {
        Edge.of(CHECK, "t is not less than DECLARED + D, and L, when the end is less", Edge.pair(2, 10, 3),
                // DECLARED is 102; so it is at 115 by the clock of server 0.
                "seconds(100); skew(0, 2); kill(1); partnerDown(0); seconds(%s); skew(0, %s); tidy(0) = %s;"
                + "record(0, 1) = %s; server(0, 8) = %s",
                Edge.row(12, 2, 0, "0 -1 0 0 0 0 0 0 0 0", 1), Edge.row(13, 2, 1, "1 -1 0 0 1 0 -1 1 0 5", 2),
                Edge.row(14, 2, 1, "1 -1 0 0 1 0 -1 1 0 5", 2), Edge.row(14, 0, 0, "0 -1 0 0 0 0 0 0 0 0", 1),
                Edge.row(15, 0, 1, "1 -1 0 0 1 0 -1 1 0 5", 2), Edge.row(12, 3, 1, "1 -1 0 0 1 0 -1 1 0 5", 2));
    }

    /** The end is 20, and DECLARED + D is 19, 20 or 21. */
    private static void takingOverByTheEnd() {
        Edge.of(CHECK, "t is not less than the greater one of end and DECLARED + D, and L", Edge.pair(2, 100, 3),
                "ask(1, 0, 1, 0, 20); carryAll(); drop(0); kill(1); kill(0); start(0); start(1); carryAll();"
                + "carryAll(); server(0, 0) = 2; server(1, 0) = 2; record(0, 1) = 2 1 20 1 0 0 1 0 1 0; kill(1);"
                + "seconds(%s); partnerDown(0) = true; seconds(%s); tidy(0) = %s; record(0, 1) = %s",
                Edge.row(16, 103, 0, "2 1 20 1 0 0 1 0 1 0"), Edge.row(16, 104, 1, "1 1 20 1 1 0 -1 2 1 5"),
                Edge.row(16, 105, 1, "1 1 20 1 1 0 -1 2 1 5"), Edge.row(17, 102, 0, "2 1 20 1 0 0 1 0 1 0"),
                Edge.row(17, 103, 1, "1 1 20 1 1 0 -1 2 1 5"), Edge.row(17, 104, 1, "1 1 20 1 1 0 -1 2 1 5"),
                Edge.row(18, 102, 0, "2 1 20 1 0 0 1 0 1 0"), Edge.row(18, 103, 1, "1 1 20 1 1 0 -1 2 1 5"),
                Edge.row(18, 104, 1, "1 1 20 1 1 0 -1 2 1 5"));
    }

    private static void takingOverOfEachKind() {
        String lease = "ask(1, 0, 0, 0, 5); carryAll(); drop(0)";
        Edge.of(CHECK, "of others that are not OWN", Edge.pair(2, 10, 0),
                // Each is over at 10, but a lease at its end and the lead, 15.
                "%s; kill(1); partnerDown(0); seconds(%s); tidy(0) = %s; record(0, 0) = %s",
                Edge.row("give(0, 1)", 9, 0, "4 -1 0 0 1 0 0 0 0 1"),
                Edge.row("give(0, 1)", 10, 2, "1 -1 0 0 2 0 -1 1 0 5"),
                Edge.row("give(0, 1)", 11, 2, "1 -1 0 0 2 0 -1 1 0 5"),
                Edge.row(lease, 14, 1, "2 1 5 1 1 0 0 0 1 1"), Edge.row(lease, 15, 2, "1 1 5 1 2 0 -1 1 1 5"),
                Edge.row(lease, 16, 2, "1 1 5 1 2 0 -1 1 1 5"),
                Edge.row(lease + "; ask(1, 2, 0, 0, 1); carryAll()", 14, 1, "3 1 5 2 2 0 0 0 1 3"),
                Edge.row(lease + "; ask(1, 2, 0, 0, 1); carryAll()", 15, 2, "1 1 5 2 3 0 -1 1 1 7"),
                Edge.row(lease + "; ask(1, 2, 0, 0, 1); carryAll()", 16, 2, "1 1 5 2 3 0 -1 1 1 7"));
    }

    /** An address that is OWN by an ACK which a lone server heard is not SOLE, and stays as it is. */
    private static void takingOverWhatIsOwn() {
        Edge.of(CHECK, "of others that are not OWN: OWN is left alone", Edge.pair(2, 10, 0),
                "ask(1, 0, 0, 0, 5); carryAll(); carryAll(); ask(1, 2, 0, 0, 1); carryAll(); send(0); carryAll();"
                + "kill(1); partnerDown(0); carryAll() = 1; record(0, 0) = 1 1 5 2 2 0 0 0 1 2; seconds(%s);"
                + "tidy(0) = %s; record(0, 0) = 1 1 5 2 2 0 0 0 1 2",
                Edge.row(9, 0), Edge.row(10, 1), Edge.row(1000, 1));
    }

    private static void voidBecomesHeard() {
        Edge.of(CHECK, "VOID becomes HEARD, and SEEN NONE", Edge.pair(2, 10, 0),
                "%s kill(1); partnerDown(0) = true; seconds(10); server(0, 3) = %s; tidy(0) = 1; record(0, 1) = %s",
                Edge.row("", 1, "1 -1 0 0 1 0 -1 1 0 5"),
                Edge.row("kill(1); start(1); carryAll();", 2, "1 -1 0 0 1 0 -1 2 0 5"),
                Edge.row("kill(1); start(1);", 1, "1 -1 0 0 1 0 -1 1 0 5"),
                Edge.row("kill(1); start(1); kill(1); start(1); carryAll();", 3, "1 -1 0 0 1 0 -1 3 0 5"));
    }

    private static void nothingIsOver() {
        Edge.of(CHECK, "how many records are changed: none", Edge.pair(32, 10, 0),
                "%s; fuse(0, 1); tidy(0) = 0; server(0, 0) = %s", Edge.row("messages()", 2),
                Edge.row("kill(1); partnerDown(0); seconds(9)", 3));
    }

    private static void allIsOver() {
        Edge.of(CHECK, "how many records are changed: all that are over", Edge.pair(32, 10, 0),
                "kill(1); partnerDown(0); seconds(%s); tidy(0) = %s; server(0, 6) = %s; server(0, 7) = %2$s;"
                + "tidy(0) = 0; server(0, 8) = %s", Edge.row(9, 0, 16, 1), Edge.row(10, 16, 32, 2));
    }
}
