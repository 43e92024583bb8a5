/** WRITES and promise 5 (fuse): which write is the last one, and when a fuse is none any more. */
public final class WriteEdgesTest {
    private static final Check CHECK = new Check("WriteEdgesTest");

    public static void main(String[] args) {
        behindTheNthWrite();
        behindTheHundredthWrite();
        fromNowOn();
        noneByDeathOrStart();
        noneByNothingElse();
        whatIsNoWrite();
        CHECK.end();
    }

    /** Four requests at once: the answer of the last write is not sent any more. */
    private static void behindTheNthWrite() {
        Edge.of(CHECK, "it dies behind its n-th write from now on; 0: it has none", Edge.pair(8, 10, 0),
                "fuse(0, %s); ask(1, 0, 0, 0, 5); ask(2, 0, 0, 0, 5); ask(3, 0, 0, 0, 5); ask(4, 0, 0, 0, 5);"
                + "carryAll() = 4; server(0, 0) = %s; server(0, 8) = %s; messages() = %s; server(0, 6) = %s",
                Edge.row(0, 2, 4, 4, 0), Edge.row(1, 0, 1, 0, 3), Edge.row(2, 0, 2, 1, 2), Edge.row(3, 0, 3, 2, 1),
                Edge.row(4, 0, 4, 3, 0), Edge.row(5, 2, 4, 4, 0));
    }

    private static void behindTheHundredthWrite() {
        int[][] rows = {{0, 2, 102, 102}, {98, 0, 98, 97}, {99, 0, 99, 98}, {100, 0, 100, 99}};
        for (int[] row : rows) {
            LeasePair pair = new LeasePair(2, 10, 0);
            pair.fuse(0, row[0]);
            for (int i = 0; i < 102; i++) {
                pair.ask(1, 0, 0, 0, 5);
            }
            Run.of(CHECK, "a fuse of " + row[0], pair, "carryAll() = 102; server(0, 0) = " + row[1],
                    "server(0, 8) = " + row[2] + "; messages() = " + row[3] + "; record(0, 0, 4) = " + row[2]);
        }
    }

    private static void fromNowOn() {
        Edge.of(CHECK, "from now on", Edge.pair(8, 10, 0),
                "%s; give(0, 1); server(0, 0) = %s; give(0, 1); server(0, 0) = %s; server(0, 8) = %s",
                Edge.row("fuse(0, 1)", 0, 0, 1), Edge.row("fuse(0, 2)", 2, 0, 2), Edge.row("fuse(0, 3)", 2, 2, 2),
                Edge.row("give(0, 1); fuse(0, 1)", 0, 0, 2), Edge.row("fuse(0, 2); give(0, 1)", 0, 0, 2),
                Edge.row("fuse(0, 2); give(0, 1); fuse(0, 2)", 2, 0, 3),
                Edge.row("fuse(0, 1); fuse(0, 0)", 2, 2, 2), Edge.row("fuse(1, 1)", 2, 2, 2));
    }

    private static void noneByDeathOrStart() {
        Edge.of(CHECK, "It has none any more when it died or was started", Edge.pair(2, 10, 0),
                "%s; server(0, 0) = 1; messages() = 1; carryAll(); carryAll(); server(0, 0) = 2; give(0, 1) = 1;"
                + "server(0, 0) = 2", Edge.row("fuse(0, 1); kill(0); start(0)"),
                Edge.row("fuse(0, 2); kill(0); start(0)"), Edge.row("fuse(0, 3); kill(0); start(0)"),
                Edge.row("kill(0); fuse(0, 1); start(0)"), Edge.row("kill(0); fuse(0, 2); start(0)"),
                Edge.row("kill(0); fuse(0, 3); start(0)"), Edge.row("kill(0); start(0); fuse(0, 1); fuse(0, 0)"));
        Edge.of(CHECK, "a fuse that is laid behind the start counts", Edge.pair(2, 10, 0),
                "kill(0); start(0); fuse(0, %s); carryAll(); carryAll(); server(0, 0) = %s; give(0, 1) = %s;"
                + "server(0, 0) = %s", Edge.row(1, 0, -1, 0), Edge.row(2, 2, 1, 0), Edge.row(3, 2, 1, 2));
    }

    /** A start or a death that is none leaves the fuse, and so does that of the partner. */
    private static void noneByNothingElse() {
        Edge.of(CHECK, "a fuse stays", Edge.pair(2, 10, 0), "fuse(0, 1); %s; give(0, 1) = 1; server(0, 0) = 0",
                Edge.row("start(0) = false"), Edge.row("kill(1); start(1)"), Edge.row("partnerDown(0) = false"),
                Edge.row("fuse(0, 101) = illegal"), Edge.row("fuse(0, -1) = illegal"), Edge.row("fuse(2, 0) = illegal"),
                Edge.row("send(0) = 0; tidy(0) = 0; seconds(9); skew(0, 0)"));
    }

    private static void whatIsNoWrite() {
        Edge.of(CHECK, "no write: what changes nothing", Edge.pair(2, 10, 0),
                "%s; server(0, 8) = %s; fuse(0, 1); %s; server(0, 8) = %2$s; server(0, 0) = %s",
                Edge.row("messages()", 0, "tidy(0) = 0", 2),
                Edge.row("give(0, 1)", 1, "give(0, 1) = 0", 2),
                Edge.row("give(0, 1)", 1, "send(0) = 1", 2),
                Edge.row("ask(1, 1, 0, 0, 5)", 0, "carry(0) = true", 2),
                Edge.row("ask(1, 2, 0, 0, 5)", 0, "carry(0) = true", 2),
                Edge.row("kill(1); start(1); carry(0)", 1, "carry(0) = true", 2),
                Edge.row("kill(1); start(1); carry(0); drop(0); carryAll()", 1, "carryAll() = 2", 2),
                Edge.row("messages()", 0, "partnerDown(0) = false", 2));
        Edge.of(CHECK, "once, if both: an UPDATE by which it becomes SERVING and which is taken in",
                Edge.pair(2, 10, 0),
                "give(1, 1); kill(0); start(0); carryAll(); carry(0); fuse(0, %s); carry(1) = true; server(0, 8) = 2;"
                + "server(0, 0) = %s; messages() = %s", Edge.row(1, 0, 3), Edge.row(2, 2, 4));
        Edge.of(CHECK, "once, if both: an ACK of an end and of the record's own version", Edge.pair(2, 10, 0),
                "ask(1, 0, 0, 0, 5); carryAll(); drop(0); send(0); carryAll(); fuse(0, %s); carry(0) = true;"
                + "record(0, 0) = 2 1 5 1 1 5 0 0 1 0; server(0, 8) = 2; server(0, 0) = %s",
                Edge.row(1, 0), Edge.row(2, 2));
        Edge.of(CHECK, "once for each tidy() and give() that changes something", Edge.pair(8, 10, 0),
                "%s; fuse(0, 2); %s; server(0, 0) = 2; server(0, 8) = %s",
                Edge.row("messages()", "give(0, 1) = 1", 1), Edge.row("messages()", "give(0, 4) = 4", 1),
                Edge.row("ask(1, 0, 0, 0, 5); ask(2, 0, 0, 0, 5); carryAll(); seconds(5)", "tidy(0) = 2", 3));
    }
}
