/** Promises 9 (send) and 11 (give): nothing, something and all; each sentence with an edge from both sides. */
public final class GiveEdgesTest {
    private static final Check CHECK = new Check("GiveEdgesTest");

    public static void main(String[] args) {
        lessOrMoreThanItHas();
        nothingToGive();
        all32();
        givingInEachState();
        sendingInEachState();
        howManyArePending();
        CHECK.end();
    }

    private static void lessOrMoreThanItHas() {
        Edge.of(CHECK, "give: its n least OWN addresses (all, if it has less): how many", Edge.pair(6, 10, 0),
                "give(0, %s) = %s; server(0, 6) = %s; server(0, 7) = %2$s; record(0, 0, 0) = 4; record(0, 2, 0) = %s;"
                + "record(0, 4, 0) = %s; record(0, 1, 0) = 0; server(0, 8) = 1; messages() = 0",
                Edge.row(1, 1, 2, 1, 1), Edge.row(2, 2, 1, 4, 1), Edge.row(3, 3, 0, 4, 4), Edge.row(4, 3, 0, 4, 4),
                Edge.row(31, 3, 0, 4, 4), Edge.row(32, 3, 0, 4, 4));
    }

    private static void nothingToGive() {
        Edge.of(CHECK, "give: it has one, or none", Edge.pair(2, 10, 0),
                "%s; fuse(1, 2); give(1, %s) = %s; server(1, 8) = %s; server(1, 0) = 2",
                Edge.row("messages()", 1, 1, 1), Edge.row("give(1, 1)", 1, 0, 1), Edge.row("give(1, 1)", 32, 0, 1));
    }

    private static void all32() {
        Edge.of(CHECK, "give: n is 1 .. 32, of 32 addresses that are OWN", Edge.pair(32, 10, 0),
                "kill(1); partnerDown(0); seconds(10); tidy(0) = 16; start(1); carry(0); server(0, 6) = 32;"
                + "give(0, %s) = %s; server(0, 6) = %s; record(0, 31, 0) = %s; give(0, 33) = illegal",
                Edge.row(31, 31, 1, 1), Edge.row(32, 32, 0, 4));
    }

    private static void givingInEachState() {
        Edge.of(CHECK, "give: NONE unless it is SERVING", Edge.pair(4, 10, 0),
                "%s; server(0, 0) = %s; server(0, 8) = %s; give(0, 1) = %s; record(0, 0, 0) = %s; server(0, 8) = %s",
                Edge.row("kill(0)", 0, 0, -1, 1, 0), Edge.row("kill(0); start(0)", 1, 1, -1, 1, 1),
                Edge.row("messages()", 2, 0, 1, 4, 1), Edge.row("kill(1); partnerDown(0)", 3, 1, -1, 1, 1),
                Edge.row("kill(1)", 2, 0, 1, 4, 1));
    }

    private static void sendingInEachState() {
        Edge.of(CHECK, "send: a HELLO if it is RECOVERING; NONE if it is DEAD", Edge.pair(4, 10, 0),
                "%s; server(0, 0) = %s; messages() = %s; send(0) = %s; messages() = %s",
                Edge.row("kill(0)", 0, 0, -1, 0), Edge.row("kill(0); start(0)", 1, 1, 1, 2),
                Edge.row("messages()", 2, 0, 0, 0), Edge.row("kill(1); partnerDown(0)", 3, 0, 0, 0));
        Edge.of(CHECK, "send: then an UPDATE of each address that is pending", Edge.pair(4, 10, 0),
                "give(0, 1); %s; drop(0); server(0, 0) = %s; send(0) = %s; message(0) = %s; messages() = %s",
                Edge.row("kill(0); start(0)", 1, 2, "2 1 0 0 -1 2 0", 2),
                Edge.row("ask(0, 0, 0, 0, 1)", 2, 1, "3 1 0 4 0 1 0", 1),
                Edge.row("kill(1); partnerDown(0); ask(0, 0, 0, 0, 1)", 3, 1, "3 1 0 4 0 1 0", 1));
    }

    private static void howManyArePending() {
        Edge.of(CHECK, "send: from the least on: how many messages", Edge.pair(32, 10, 0),
                "%s; server(0, 7) = %s; send(0) = %s; messages() = %s",
                Edge.row("messages()", 0, 0, 0), Edge.row("give(0, 1)", 1, 1, 1), Edge.row("give(0, 15)", 15, 15, 15),
                Edge.row("give(0, 32)", 16, 16, 16), Edge.row("give(0, 32); kill(0); start(0)", 16, 17, 18),
                Edge.row("kill(1); partnerDown(0); seconds(10); tidy(0); start(1); carryAll(); carryAll(); give(0, 32)",
                        32, 32, 64));
        Run.of(CHECK, "send: from the least on", new LeasePair(32, 10, 0),
                "give(1, 32); send(1) = 16; message(0, 4) = 1; message(1, 4) = 3; message(14, 4) = 29",
                "message(15, 4) = 31");
    }
}
