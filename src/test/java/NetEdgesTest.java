/** THE NET, and promises 12 to 16: the net empty and full; each sentence with an edge from both sides. */
public final class NetEdgesTest {
    private static final Check CHECK = new Check("NetEdgesTest");

    public static void main(String[] args) {
        atMost300();
        manyAtOnce();
        droppingOffAFullNet();
        emptyNet();
        lastMessage();
        carryingStays();
        carryingAllTakes();
        whatAMessageHas();
        CHECK.end();
    }

    private static LeasePair with(int messages) {
        LeasePair pair = new LeasePair(32, 10, 0);
        for (int i = 0; i < messages; i++) {
            pair.ask(0, 0, 0, 0, 1);
        }
        return pair;
    }

    private static void atMost300() {
        int[][] rows = {{298, 298, 1}, {299, 299, 1}, {300, 300, 1}, {301, 300, 2}, {302, 300, 3}, {450, 300, 151}};
        for (int[] row : rows) {
            Run.of(CHECK, "at most 300; when one more is sent the first one is gone: " + row[0], with(row[0]),
                    "messages() = " + row[1] + "; message(0, 5) = " + row[2],
                    "message(" + (row[1] - 1) + ", 5) = " + row[0] + "; message(" + row[1] + ", 5) = illegal",
                    "carry(" + row[1] + ") = illegal; drop(" + row[1] + ") = illegal");
        }
    }

    /** The HELLO that is heard makes 32 UPDATEs: they fill the net, or push as many off as are too many. */
    private static void manyAtOnce() {
        int[][] rows = {{266, 299, 1}, {267, 300, 1}, {268, 300, 2}, {269, 300, 3}};
        for (int[] row : rows) {
            LeasePair pair = with(row[0]);
            pair.kill(1);
            pair.start(1);
            Run.of(CHECK, "when one more is sent the first one is gone: 32 more than " + (row[0] + 1), pair,
                    "carry(" + row[0] + ") = true; messages() = " + row[1] + "; message(0, 5) = " + row[2],
                    "message(" + (row[1] - 1) + ", 4) = 31; message(" + (row[1] - 32) + ", 4) = 0",
                    "message(" + (row[1] - 33) + ", 0) = 2");
        }
    }

    /** The net stands across its end by then: first, middle and last place, and one sent behind it. */
    private static void droppingOffAFullNet() {
        int[][] rows = {{0, 153, 451}, {149, 152, 451}, {150, 152, 451}, {298, 152, 451}, {299, 152, 450}};
        for (int[] row : rows) {
            Run.of(CHECK, "drop: the message at place " + row[0] + " of 300 is lost", with(451),
                    "message(0, 5) = 152; message(" + row[0] + ", 5) = " + (152 + row[0]),
                    "drop(" + row[0] + ") = 299; message(0, 5) = " + row[1] + "; message(298, 5) = " + row[2],
                    row[0] < 299 ? "message(" + row[0] + ", 5) = " + (153 + row[0]) : "message(299, 5) = illegal",
                    row[0] > 0 ? "message(" + (row[0] - 1) + ", 5) = " + (151 + row[0]) : "message(-1, 5) = illegal",
                    "ask(0, 0, 0, 0, 1) = 452; messages() = 300; message(0, 5) = " + row[1] + "; message(299, 5) = 452",
                    "ask(0, 0, 0, 0, 1) = 453; messages() = 300; message(298, 5) = 452; carryAll() = 300");
        }
    }

    private static void emptyNet() {
        Run.of(CHECK, "an empty net", new LeasePair(2, 10, 0), "messages() = 0; carryAll() = 0; carry(0) = illegal",
                "drop(0) = illegal; message(0, 0) = illegal; messages() = 0");
        Run.of(CHECK, "a net that is empty again", with(450),
                "carryAll() = 300; messages() = 300; carryAll() = 300; messages() = 0; carryAll() = 0; carry(0) = illegal",
                "drop(0) = illegal; message(0, 0) = illegal; ask(0, 0, 0, 0, 1) = 451; message(0, 5) = 451");
    }

    private static void lastMessage() {
        Edge.of(CHECK, "drop: how many are left", Edge.pair(2, 10, 0),
                "ask(0, 0, 0, 0, 1); ask(1, 0, 0, 0, 1); drop(%s) = 1; message(0, 2) = %s; drop(1) = illegal;"
                + "drop(0) = 0; messages() = 0; drop(0) = illegal", Edge.row(0, 1), Edge.row(1, 0));
    }

    private static void carryingStays() {
        Edge.of(CHECK, "carry: reaches whom it is for, and stays on the net", Edge.pair(2, 10, 0),
                "ask(0, 2, 0, 0, 1); ask(1, 2, 1, 0, 1); ask(2, 2, 0, 0, 1); carry(%s) = true; messages() = 3;"
                + "message(0, 2) = 0; message(1, 2) = 1; message(2, 2) = 2", Edge.row(0), Edge.row(1), Edge.row(2));
    }

    private static void carryingAllTakes() {
        Edge.of(CHECK, "carryAll: those that are sent meanwhile come on the net", Edge.pair(2, 10, 0),
                "%s; carryAll() = %s; messages() = %s",
                Edge.row("messages()", 0, 0), Edge.row("ask(0, 2, 0, 0, 1)", 1, 0),
                Edge.row("ask(0, 0, 0, 0, 1)", 1, 1), Edge.row("ask(0, 0, 0, 0, 1); ask(1, 0, 0, 0, 1)", 2, 2),
                Edge.row("kill(1); start(1)", 1, 2));
        Run.of(CHECK, "carryAll of 299", with(299), "carryAll() = 299; messages() = 299; message(0, 5) = 1");
        Run.of(CHECK, "carryAll of 300", with(300), "carryAll() = 300; messages() = 300; message(299, 5) = 300");
        Run.of(CHECK, "carryAll of 301", with(301), "carryAll() = 300; messages() = 300; message(0, 5) = 2");
    }

    private static void whatAMessageHas() {
        String lease = "ask(7, 0, 0, 1, 5); carryAll();";
        Edge.of(CHECK, "message: 3: .. else 0; 4: NONE without one (NEW, NO, HELLO); 6: .. else 0",
                Edge.pair(2, 10, 0), "%s; message(0) = %s",
                Edge.row("ask(7, 0, 1, 1, 5)", "0 1 7 0 -1 1 5"), Edge.row("ask(7, 1, 1, 1, 5)", "0 1 7 1 1 1 5"),
                Edge.row("ask(7, 2, 1, 1, 5)", "0 1 7 2 1 1 0"), Edge.row(lease, "1 7 0 1 0 1 5"),
                Edge.row("ask(7, 1, 1, 1, 5); carryAll()", "1 7 1 0 -1 1 0"),
                Edge.row("kill(1); start(1)", "2 0 1 0 -1 2 0"),
                Edge.row(lease + "drop(0); send(0)", "3 1 0 2 0 1 5"),
                Edge.row(lease + "drop(0); send(0); carryAll()", "4 0 1 0 0 1 5"),
                Edge.row(lease + "drop(0); ask(7, 2, 0, 0, 1); carryAll(); send(0)", "3 1 0 3 0 2 5"),
                Edge.row("give(1, 1); send(1)", "3 0 1 4 1 1 0"),
                Edge.row("give(1, 1); send(1); carryAll()", "4 1 0 0 1 1 0"));
    }
}
