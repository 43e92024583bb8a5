/**
 * Promises 2 to 19, "Illegal argument: ..", and "In all calls illegal
 * argument: a number is out of its bounds, or there is no such thing; it
 * changes nothing.": every bound of every number, from both sides.
 */
public final class ArgumentEdgesTest {
    private static final Check CHECK = new Check("ArgumentEdgesTest");
    /** Leases, a gift, offsets, a fuse, and four messages of four kinds, the last one at place 3. */
    private static final String BUSY = "seconds(3); skew(1, 2); ask(1, 0, 0, 0, 50); carryAll(); carryAll();"
            + "give(1, 1); send(0); carryAll(); send(1); ask(2, 2, 1, 1, 9); ask(1, 1, 0, 0, 9); fuse(0, 3)";
    private static final String[] STATES = {"messages()", "kill(0)", "kill(0); start(0)", "kill(1); partnerDown(0)"};

    public static void main(String[] args) {
        seconds();
        theEndOfTime();
        offsets();
        servers();
        clients();
        kinds();
        addresses();
        secondsOfRequests();
        fuses();
        gifts();
        places();
        whats();
        CHECK.end();
    }

    /** The call with each number next to a bound, and with the most extreme ones. */
    private static void bounds(String sentence, int[] pair, String before, String call, int least, int greatest) {
        int[] tried = {Integer.MIN_VALUE, least - 1, least, least + 1, greatest - 1, greatest, greatest + 1,
            Integer.MAX_VALUE};
        for (int number : tried) {
            boolean legal = number >= least && number <= greatest;
            Edge.of(CHECK, sentence, pair, before + "; " + call + (legal ? "" : " = illegal"), Edge.row(number));
        }
    }

    private static void bounds(String sentence, String call, int least, int greatest) {
        bounds(sentence, Edge.pair(4, 100, 5), BUSY, call, least, greatest);
    }

    private static void seconds() {
        bounds("n is not 0 .. 100000", "seconds(%s)", 0, 100000);
    }

    private static LeasePair late(int before) {
        LeasePair pair = new LeasePair(2, 10, 5);
        for (int i = 0; i < 9999; i++) {
            pair.seconds(100000);
        }
        pair.seconds(100000 - before);
        return pair;
    }

    /** No object gets there within 512 calls; the bound is kept all the same. */
    private static void theEndOfTime() {
        String sentence = "or it would be above 1000000000";
        Run.of(CHECK, sentence, late(1), "seconds(2) = illegal; seconds(0) = 999999999; seconds(1) = 1000000000",
                "seconds(1) = illegal; seconds(0) = 1000000000; seconds(100000) = illegal; server(0, 1) = 1000000000");
        Run.of(CHECK, sentence, late(100000), "seconds(100001) = illegal; seconds(100000) = 1000000000");
        Run.of(CHECK, sentence, late(99999), "seconds(100000) = illegal; seconds(99999) = 1000000000");
        Run.of(CHECK, sentence + ": a lease goes beyond", late(0), "skew(0, 5); ask(1, 0, 0, 0, 100000); carryAll()",
                "record(0, 0, 2) = 1000000015; kill(1); partnerDown(0); ask(1, 1, 0, 0, 100000); carryAll()",
                "record(0, 0, 2) = 1000100005; carryAll(); client(1) = 0 1000100005 2; tidy(0) = 0");
    }

    private static void offsets() {
        bounds("the offset is not 0 .. D", "skew(0, %s)", 0, 5);
        bounds("the offset is not 0 .. D", "skew(1, %s)", 0, 5);
        bounds("the offset is not 0 .. D, 0", Edge.pair(2, 10, 0), "kill(1)", "skew(1, %s)", 0, 0);
        bounds("the offset is not 0 .. D, 1", Edge.pair(2, 10, 1), "messages()", "skew(0, %s)", 0, 1);
        bounds("the offset is not 0 .. D, 1000", Edge.pair(2, 10, 1000), "messages()", "skew(0, %s)", 0, 1000);
    }

    private static void servers() {
        String[] calls = {"skew(%s, 0)", "kill(%s)", "fuse(%s, 1)", "start(%s)", "partnerDown(%s)",
            "ask(1, 0, %s, 0, 1)", "send(%s)", "tidy(%s)", "give(%s, 1)", "record(%s, 0, 0)", "server(%s, 0)"};
        for (String call : calls) {
            bounds("SERVERS are 0 and 1", call, 0, 1);
        }
    }

    private static void clients() {
        bounds("CLIENTS 0 .. 15", "ask(%s, 2, 0, 0, 1)", 0, 15);
        bounds("CLIENTS 0 .. 15", "client(%s, 1)", 0, 15);
    }

    private static void kinds() {
        bounds("kind = 0: NEW, 1: RENEW, 2: RELEASE", "ask(1, %s, 0, 0, 1)", 0, 2);
    }

    private static void addresses() {
        for (int many : new int[] {2, 3, 31, 32}) {
            for (int kind = 0; kind <= 2; kind++) {
                bounds("also if the address is none, whatever the kind", Edge.pair(many, 10, 0), "messages()",
                        "ask(1, " + kind + ", 0, %s, 1)", 0, many - 1);
            }
            bounds("ADDRESSES are 0 .. n - 1", Edge.pair(many, 10, 0), "messages()", "record(1, %s, 9)", 0, many - 1);
        }
    }

    private static void secondsOfRequests() {
        for (int kind = 0; kind <= 2; kind++) {
            bounds("seconds are not 1 .. 100000 (whatever the kind)", "ask(1, " + kind + ", 1, 0, %s)", 1, 100000);
        }
    }

    private static void fuses() {
        for (String state : STATES) {
            bounds("fuse: n is not 0 .. 100", Edge.pair(4, 100, 5), state, "fuse(0, %s)", 0, 100);
        }
    }

    private static void gifts() {
        for (String state : STATES) {
            bounds("give: n is not 1 .. 32", Edge.pair(4, 100, 5), state, "give(0, %s)", 1, 32);
            bounds("give: n is not 1 .. 32", Edge.pair(32, 100, 5), state, "give(0, %s)", 1, 32);
        }
    }

    private static void places() {
        for (String call : new String[] {"carry(%s)", "drop(%s)", "message(%s, 0)", "message(%s, 6)"}) {
            bounds("PLACES are 0, 1, ..", call, 0, 3);
            bounds("PLACES are 0, 1, ..: one message", Edge.pair(2, 10, 0), "ask(1, 0, 0, 0, 5)", call, 0, 0);
            bounds("PLACES are 0, 1, ..: none", Edge.pair(2, 10, 0), "ask(1, 0, 0, 0, 5); drop(0)", call, 0, -1);
        }
    }

    private static void whats() {
        bounds("message: also if what is none of these", "message(3, %s)", 0, 6);
        bounds("client: what = 0, 1, 2", "client(1, %s)", 0, 2);
        bounds("record: what = 0 .. 9", "record(0, 0, %s)", 0, 9);
        bounds("server: what = 0 .. 8", "server(0, %s)", 0, 8);
    }
}
