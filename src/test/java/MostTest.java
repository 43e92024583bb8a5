/** Promise 20 (most). */
public final class MostTest {
    private static final Check CHECK = new Check("MostTest");

    public static void main(String[] args) {
        Run.of(CHECK, "nobody yet", new LeasePair(4, 100, 0),
                "most() = 0; ask(1, 0, 0, 0, 9); most() = 0; carryAll(); most() = 0; carryAll(); most() = 1");
        Run.of(CHECK, "two addresses", new LeasePair(4, 100, 0),
                "ask(1, 0, 0, 0, 9); ask(2, 0, 0, 0, 9); carryAll(); carryAll(); client(1, 0) = 0; client(2, 0) = 2",
                "most() = 1; carryAll() = 0; most() = 1");
        Run.of(CHECK, "a lease that is over when it is heard", new LeasePair(4, 100, 5),
                "ask(1, 0, 0, 0, 5); carryAll(); carryAll(); client(1) = -1 5 1; most() = 0",
                "ask(1, 0, 0, 0, 6); carryAll(); carryAll(); client(1) = 0 6 2; most() = 1");
        Run.of(CHECK, "one after the other", new LeasePair(2, 100, 0),
                "ask(1, 0, 0, 0, 5); carryAll(); carryAll(); ask(1, 2, 0, 0, 5); carryAll(); send(0); carryAll()",
                "carryAll(); ask(2, 0, 0, 0, 5); carryAll(); carryAll(); client(2, 0) = 0; most() = 1");
        twoAtATime();
        twoAtATimeByWhatWasGiven();
        atTheSameTime();
        CHECK.end();
    }

    /**
     * The rules of the document let two clients hold one address here: the
     * UPDATE of a lease that a lone server made and ended again reaches the
     * partner before the HELLO of that one is heard, and the lease that
     * followed is not taken in, but makes the address FRESH.
     */
    private static void twoAtATime() {
        Run.of(CHECK, "two at a time", new LeasePair(2, 19, 0),
                "kill(1); partnerDown(0); ask(0, 0, 0, 0, 50); carry(0); send(0) = 1; ask(0, 2, 0, 0, 1); carry(3)",
                "ask(1, 0, 0, 0, 13); carry(4); carry(5) = true; client(1, 0) = 0; most() = 1; start(1)",
                "message(2) = 3 1 0 2 0 1 50; carry(2) = true; carry(6) = true; server(0, 0) = 2",
                "message(8) = 3 1 0 2 0 3 13; carry(8) = true; carry(9) = true; server(1, 0) = 2; messages() = 11",
                "ask(0, 0, 1, 0, 40) = 3; carry(11); message(12) = 1 0 1 1 0 3 50; carry(12) = true",
                "client(0, 0) = 0; client(1, 0) = 0; most() = 2; seconds(13); client(1, 0) = -1; most() = 2");
    }

    /**
     * Here too: the ACK that is sent once more for what was GIVEN tells the
     * version of a lease that was made meanwhile, so that SEEN skips it.
     */
    private static void twoAtATimeByWhatWasGiven() {
        Run.of(CHECK, "two at a time by what was given", new LeasePair(2, 10, 0),
                "give(0, 1); send(0); carry(0); drop(1); ask(1, 0, 1, 0, 10); carry(1); carry(0); carry(3) = true",
                "record(0, 0, 0) = 0; record(0, 0, 6) = 1; send(1); carry(4); record(0, 0, 0) = 0; carry(5)",
                "record(1, 0, 5) = 10; ask(1, 1, 1, 0, 100); carry(6); carry(7) = true; client(1) = 0 20 2; kill(1)",
                "partnerDown(0) = true; seconds(10); tidy(0) = 2; ask(2, 0, 0, 0, 5); carry(8); carry(9) = true",
                "client(1, 0) = 0; client(2, 0) = 0; most() = 2");
    }

    /** As in the first run above: the one's lease ends at 13, the other's is heard before, at or behind that. */
    private static void atTheSameTime() {
        Edge.of(CHECK, "The greatest number of clients that ever held one address at the same time",
                Edge.pair(2, 19, 0),
                "kill(1); partnerDown(0); ask(0, 0, 0, 0, 50); carry(0); send(0); ask(0, 2, 0, 0, 1); carry(3);"
                + "ask(1, 0, 0, 0, 13); carry(4); carry(5); start(1); carry(2); carry(6); carry(8); carry(9);"
                + "ask(0, 0, 1, 0, 40); carry(11); seconds(%s); carry(12) = true; client(0, 0) = 0;"
                + "client(1, 0) = %s; most() = %s",
                Edge.row(12, 0, 2), Edge.row(13, -1, 1), Edge.row(14, -1, 1));
        Edge.of(CHECK, "it grows when a lease is heard, and never shrinks", Edge.pair(2, 10, 0),
                "ask(0, 0, 0, 0, 5); carryAll(); %s; most() = %s",
                Edge.row("messages()", 0), Edge.row("carryAll()", 1), Edge.row("carryAll(); seconds(5)", 1),
                Edge.row("seconds(5); carryAll()", 0), Edge.row("carryAll(); ask(0, 2, 0, 0, 1)", 1),
                Edge.row("carry(0); carry(0)", 1));
    }
}
