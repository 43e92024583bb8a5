/** Promises 1 (a new object), 4 (kill), 6 (start) and 7 (partnerDown): in each state, and at each bound. */
public final class LifeEdgesTest {
    private static final Check CHECK = new Check("LifeEdgesTest");
    private static final String DEAD = "kill(0)";
    private static final String RECOVERING = "kill(0); start(0)";
    private static final String SERVING = "messages()";
    private static final String ALONE = "kill(1); partnerDown(0)";

    public static void main(String[] args) {
        leadInUse();
        skewInUse();
        firstOwners();
        killing();
        allStaysInDeath();
        starting();
        startingForgetsWhatWasFresh();
        declaringDown();
        declared();
        soleByTheDeclaration();
        CHECK.end();
    }

    /** L counts for NEW, for RENEW and for what a lone server takes over. */
    private static void leadInUse() {
        int[][] rows = {{-5, 1}, {0, 1}, {1, 1}, {2, 2}, {9999, 9999}, {10000, 10000}, {10001, 10000}};
        for (int[] row : rows) {
            int used = row[1];
            Run.of(CHECK, "L (1 .. 10000, likewise): " + row[0], new LeasePair(2, row[0], 0),
                    "ask(1, 0, 0, 0, 100000); carryAll(); drop(0); record(0, 0, 2) = " + used,
                    "send(0); carryAll(); carryAll(); ask(1, 1, 0, 0, 100000); carryAll()",
                    "record(0, 0, 2) = " + 2 * used + "; kill(0); partnerDown(1); seconds(" + (2 * used - 1) + ")",
                    "tidy(1) = 0; seconds(1); tidy(1) = 1; record(1, 0, 0) = 1");
        }
    }

    /** D counts for skew, for what a client holds, and for what a lone server takes over. */
    private static void skewInUse() {
        int[][] rows = {{-5, 0}, {-1, 0}, {0, 0}, {1, 1}, {2, 2}, {999, 999}, {1000, 1000}, {1001, 1000}};
        for (int[] row : rows) {
            int used = row[1];
            Run.of(CHECK, "D (0 .. 1000, likewise): " + row[0], new LeasePair(2, 10000, row[0]),
                    "skew(0, " + (used + 1) + ") = illegal; skew(0, " + used + ") = 0; skew(0, 0) = " + used,
                    "ask(1, 0, 0, 0, 5000); carryAll(); carryAll(); seconds(" + (4999 - used) + "); client(1, 0) = 0",
                    "seconds(1); client(1) = -1 5000 1; kill(1); partnerDown(0); server(0, 5) = " + (5000 - used),
                    "seconds(" + (9999 + used) + "); tidy(0) = 0; seconds(1); tidy(0) = 2");
        }
    }

    private static void firstOwners() {
        int[][] rows = {{1, 1, 1}, {2, 1, 1}, {3, 2, 1}, {31, 16, 15}, {32, 16, 16}, {33, 16, 16}};
        for (int[] row : rows) {
            int last = Math.min(Math.max(row[0], 2), 32) - 1;
            Run.of(CHECK, "the even addresses are OWN at server 0, the odd ones at server 1: " + row[0],
                    new LeasePair(row[0], 10, 0), "server(0, 6) = " + row[1] + "; server(1, 6) = " + row[2],
                    "record(0, 0, 0) = 1; record(1, 0, 0) = 0; record(0, 1, 0) = 0; record(1, 1, 0) = 1",
                    "record(" + last % 2 + ", " + last + ", 0) = 1; record(" + (last + 1) % 2 + ", " + last + ", 0) = 0",
                    "record(0, " + (last + 1) + ", 0) = illegal");
        }
    }

    private static void killing() {
        Edge.of(CHECK, "kill: whether it was not DEAD", Edge.pair(2, 10, 0),
                "%s; server(0, 0) = %s; kill(0) = %s; server(0, 0) = 0; kill(0) = false; server(0, 0) = 0",
                Edge.row(DEAD, 0, false), Edge.row(RECOVERING, 1, true), Edge.row(SERVING, 2, true),
                Edge.row(ALONE, 3, true));
    }

    private static void allStaysInDeath() {
        Edge.of(CHECK, "All that a server knows stays when it dies", Edge.pair(2, 10, 3),
                "seconds(9); skew(0, 2); ask(1, 0, 0, 0, 5); carryAll(); carryAll(); %s; server(0) = %s;"
                + "record(0, 0) = %s; kill(0); server(0) = %s; record(0, 0) = %3$s",
                Edge.row(SERVING, "2 11 1 1 1 0 0 1 1", "2 1 16 1 1 0 0 0 1 1", "0 11 1 1 1 0 0 1 1"),
                Edge.row(ALONE, "3 11 1 1 1 11 0 1 2", "2 1 16 1 1 0 0 0 1 1", "0 11 1 1 1 11 0 1 2"),
                Edge.row(ALONE + "; ask(1, 2, 0, 0, 1); carryAll(); seconds(16); tidy(0)", "3 27 1 1 1 11 2 2 4",
                        "1 1 16 2 3 0 -1 1 1 7", "0 27 1 1 1 11 2 2 4"));
    }

    private static void starting() {
        Edge.of(CHECK, "start: whether it was DEAD", Edge.pair(2, 10, 0),
                "%s; server(0, 0) = %s; server(0, 2) = %s; start(0) = %s; server(0, 0) = %s; server(0, 2) = %s;"
                + "messages() = %s",
                Edge.row(DEAD, 0, 1, true, 1, 2, 1), Edge.row(RECOVERING, 1, 2, false, 1, 2, 1),
                Edge.row(SERVING, 2, 1, false, 2, 1, 0), Edge.row(ALONE, 3, 1, false, 3, 1, 0));
        Edge.of(CHECK, "start: no address is SOLE, unless it is refused", Edge.pair(2, 10, 0),
                ALONE + "; record(0, 0, 9) = 4; %s; record(0, 0, 9) = %s",
                Edge.row("start(0) = false", 4), Edge.row("kill(0)", 4), Edge.row("kill(0); start(0) = true", 0));
    }

    /** Address 0 is FRESH before the second start; behind it address 1 alone is, or both are. */
    private static void startingForgetsWhatWasFresh() {
        Edge.of(CHECK, "start: no address is FRESH", Edge.pair(2, 10, 0),
                "kill(0); start(0); carryAll(); carry(0); %s message(%s, 4) = 1; carry(%2$s) = true; server(0, 0) = %s",
                Edge.row("", 1, 2), Edge.row("kill(0); start(0); carry(3);", 5, 1),
                Edge.row("kill(0); start(0); carry(3); carry(4);", 5, 2));
    }

    private static void declaringDown() {
        String sentence = "partnerDown: it does when the server is SERVING and its partner DEAD";
        String calls = "%s; server(0, 0) = %s; server(1, 0) = %s; partnerDown(0) = %s; server(0, 0) = %s;"
                + "server(0, 5) = %s; server(0, 8) = %s";
        Edge.of(CHECK, sentence, Edge.pair(2, 10, 0), "seconds(7); " + calls,
                Edge.row("kill(1)", 2, 0, true, 3, 7, 1),
                Edge.row("messages()", 2, 2, false, 2, 0, 0),
                Edge.row("kill(1); start(1)", 2, 1, false, 2, 0, 0),
                Edge.row("kill(0)", 0, 2, false, 0, 0, 0),
                Edge.row("kill(0); kill(1)", 0, 0, false, 0, 0, 0),
                Edge.row("kill(0); kill(1); start(1)", 0, 1, false, 0, 0, 0),
                Edge.row("kill(0); partnerDown(1)", 0, 3, false, 0, 0, 0),
                Edge.row("kill(0); start(0)", 1, 2, false, 1, 0, 1),
                Edge.row("kill(0); start(0); kill(1)", 1, 0, false, 1, 0, 1),
                Edge.row("kill(0); start(0); kill(1); start(1)", 1, 1, false, 1, 0, 1),
                Edge.row("kill(0); partnerDown(1); start(0)", 1, 3, false, 1, 0, 1),
                Edge.row("kill(1); partnerDown(0); seconds(1)", 3, 0, false, 3, 7, 1),
                Edge.row("kill(1); partnerDown(0); start(1)", 3, 1, false, 3, 7, 1));
    }

    private static void declared() {
        Edge.of(CHECK, "DECLARED, its clock when its partner was declared down last", Edge.pair(2, 10, 5),
                "kill(1); seconds(%s); skew(0, %s); partnerDown(0) = true; seconds(3); skew(0, 1);"
                + "partnerDown(0) = false; server(0, 5) = %s; start(1); carryAll(); server(0, 5) = %3$s; kill(1);"
                + "partnerDown(0) = true; server(0, 5) = %s",
                Edge.row(0, 0, 0, 4), Edge.row(0, 5, 5, 4), Edge.row(20, 0, 20, 24), Edge.row(20, 5, 25, 24));
    }

    private static void soleByTheDeclaration() {
        Edge.of(CHECK, "addresses that are OWN are SOLE, others not", Edge.pair(4, 10, 0),
                "%s; kill(1); partnerDown(0) = true; record(0, 0, 0) = %s; record(0, 0, 9) = %s; record(0, 2, 9) = 4;"
                + "record(0, 1, 9) = 0; record(0, 3, 9) = 0",
                Edge.row("messages()", 1, 4), Edge.row("give(0, 1)", 4, 1),
                Edge.row("ask(1, 0, 0, 0, 9); carryAll()", 2, 1),
                Edge.row("ask(1, 0, 0, 0, 9); carryAll(); ask(1, 2, 0, 0, 9); carryAll()", 3, 3),
                Edge.row("give(0, 1); send(0); carryAll(); carryAll()", 0, 0));
    }
}
