/** "Terms": who hears HELLO, UPDATE and ACK, HELLO itself, and when all is FRESH; each edge from both sides. */
public final class HelloEdgesTest {
    private static final Check CHECK = new Check("HelloEdgesTest");

    public static void main(String[] args) {
        whoHears();
        greaterThanHeard();
        firstHelloOfAll();
        anUpdateOfEveryAddress();
        heardIsTheOwnEpoch();
        allAddressesAreFresh();
        CHECK.end();
    }

    private static void whoHears() {
        // A HELLO and an UPDATE for server 1 are at the places 0 and 1.
        String net = "give(0, 1); kill(0); start(0); send(0) = 2; drop(0); message(0, 0) = 2; message(1, 0) = 3;";
        for (int place = 0; place <= 1; place++) {
            Edge.of(CHECK, "All servers but DEAD ones hear HELLO and UPDATE", Edge.pair(2, 10, 0),
                    net + "%s; server(1, 0) = %s; carry(" + place + ") = %s",
                    Edge.row("messages()", 2, true), Edge.row("kill(1)", 0, false),
                    Edge.row("kill(1); start(1)", 1, true), Edge.row("kill(0); partnerDown(1)", 3, true));
        }
        Edge.of(CHECK, "All servers but DEAD ones hear ACK", Edge.pair(2, 10, 0),
                "give(1, 1); send(1); carryAll(); message(0) = 4 1 0 0 1 1 0; %s; server(1, 0) = %s;"
                + "carry(0) = %s; record(1, 1, 0) = %s",
                Edge.row("messages()", 2, true, 0), Edge.row("kill(1)", 0, false, 4),
                Edge.row("kill(1); start(1)", 1, true, 0), Edge.row("kill(0); partnerDown(1)", 3, true, 0));
    }

    private static void greaterThanHeard() {
        String sentence = "HELLO: if the epoch is greater than HEARD";
        // HELLOs of the epochs 2, 3 and 4 are at the places 0, 1 and 2; number 3 is heard first.
        String net = "kill(1); start(1); kill(1); start(1); kill(1); start(1); %s carry(1); server(0, 3) = 3;";
        Edge.of(CHECK, sentence, Edge.pair(2, 10, 0), String.format(net, "")
                + "carry(%s) = true; server(0) = %s; messages() = 7",
                Edge.row(0, "2 0 1 3 1 0 1 0 1"), Edge.row(1, "2 0 1 3 1 0 1 0 1"), Edge.row(2, "2 0 1 4 1 0 1 0 2"));
        Edge.of(CHECK, sentence + ", one that is ALONE becomes SERVING, with no address SOLE", Edge.pair(2, 10, 0),
                String.format(net, "kill(1);") + "partnerDown(0) = true; record(0, 0, 9) = 4; carry(%s) = true;"
                + "server(0) = %s; record(0, 0, 9) = %s; messages() = 7",
                Edge.row(0, "3 0 1 3 1 0 1 0 2", 4), Edge.row(1, "3 0 1 3 1 0 1 0 2", 4),
                Edge.row(2, "2 0 1 4 1 0 1 0 3", 0));
        Edge.of(CHECK, sentence + ", one that is RECOVERING stays so", Edge.pair(2, 10, 0),
                String.format(net, "") + "kill(0); start(0); carry(%s) = true; server(0) = %s; messages() = 8",
                Edge.row(0, "1 0 2 3 1 0 1 0 2"), Edge.row(1, "1 0 2 3 1 0 1 0 2"), Edge.row(2, "1 0 2 4 1 0 1 0 3"));
    }

    private static void firstHelloOfAll() {
        Edge.of(CHECK, "HEARD is 1 at first, and grows by more than one, too", Edge.pair(2, 10, 0),
                "%s; carry(%s); server(0, 3) = %s; server(0, 8) = 1",
                Edge.row("kill(1); start(1)", 0, 2), Edge.row("kill(1); start(1); kill(1); start(1)", 0, 2),
                Edge.row("kill(1); start(1); kill(1); start(1)", 1, 3));
    }

    private static void anUpdateOfEveryAddress() {
        for (int many : new int[] {2, 3, 31, 32}) {
            Edge.of(CHECK, "Then (in any case) it sends an UPDATE of every address, from the least on",
                    Edge.pair(many, 10, 0), "kill(1); start(1); carry(0); messages() = %s; message(1) = 3 1 0 1 0 0 0;"
                    + "message(2) = 3 1 0 0 1 0 0; message(%s, 4) = %s; carry(0); messages() = %s",
                    Edge.row(many + 1, many, many - 1, 2 * many + 1));
        }
    }

    private static void heardIsTheOwnEpoch() {
        Edge.of(CHECK, "UPDATE: If its HEARD is the receiver's own epoch, the address is FRESH", Edge.pair(2, 10, 0),
                // UPDATEs of address 1: at place 3, of one that heard of epoch 2, at place 6, of epoch 3.
                "kill(0); start(0); carry(0); kill(0); start(0); carry(3); messages() = 6; carry(4) = true;"
                + "message(%s, 4) = 1; carry(%s) = true; server(0, 0) = %s; server(0, 4) = %s",
                Edge.row(2, 2, 1, 1), Edge.row(5, 5, 2, 3));
        Edge.of(CHECK, "FRESH counts for RECOVERING alone", Edge.pair(2, 10, 0),
                // UPDATEs that server 1 sent to the first epoch don't help the second one.
                "give(1, 1); send(1); carry(0); carry(0); kill(0); start(0); carry(0); server(0, 0) = %s",
                Edge.row(1));
    }

    private static LeasePair recoveringWith(int many) {
        LeasePair pair = new LeasePair(many, 10, 0);
        pair.kill(0);
        pair.start(0);
        pair.carryAll();
        return pair;
    }

    private static void allAddressesAreFresh() {
        for (int many : new int[] {2, 3, 31, 32}) {
            for (int missing = 0; missing < many; missing += many - 1) {
                LeasePair pair = recoveringWith(many);
                for (int place = 0; place < many; place++) {
                    if (place != missing) {
                        pair.carry(place);
                    }
                }
                Run.of(CHECK, "all addresses are FRESH: all of " + many + " but " + missing, pair,
                        "server(0, 0) = 1; server(0, 4) = 1; server(0, 8) = 1; carry(" + missing + ") = true",
                        "server(0, 0) = 2; server(0, 4) = 2; server(0, 8) = 2");
            }
        }
    }
}
