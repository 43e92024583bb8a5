/** Promise 1: a new object. */
public final class NewPairTest {
    private static final Check CHECK = new Check("NewPairTest");

    public static void main(String[] args) {
        addressesAreKeptWithinBounds();
        leadIsKeptWithinBounds();
        skewIsKeptWithinBounds();
        firstStateOfServers();
        firstStateOfRecords();
        firstStateOfClientsAndNet();
        CHECK.due("NONE", LeasePair.NONE, -1);
        CHECK.end();
    }

    private static void addressesAreKeptWithinBounds() {
        int[][] asked = {{Integer.MIN_VALUE, 2}, {0, 2}, {1, 2}, {2, 2}, {3, 3}, {31, 31}, {32, 32}, {33, 32},
            {Integer.MAX_VALUE, 32}};
        for (int[] row : asked) {
            CHECK.due("addresses of " + row[0], Look.addresses(new LeasePair(row[0], 10, 0)), row[1]);
        }
    }

    /** A NEW of the longest time is cut to the lead. */
    private static void leadIsKeptWithinBounds() {
        int[][] asked = {{Integer.MIN_VALUE, 1}, {0, 1}, {1, 1}, {2, 2}, {9999, 9999}, {10000, 10000}, {10001, 10000},
            {Integer.MAX_VALUE, 10000}};
        for (int[] row : asked) {
            LeasePair pair = new LeasePair(2, row[0], 0);
            pair.ask(0, 0, 0, 0, 100000);
            pair.carryAll();
            CHECK.due("end under lead " + row[0], pair.record(0, 0, 2), row[1]);
        }
    }

    private static void skewIsKeptWithinBounds() {
        int[][] asked = {{Integer.MIN_VALUE, 0}, {-1, 0}, {0, 0}, {1, 1}, {999, 999}, {1000, 1000}, {1001, 1000},
            {Integer.MAX_VALUE, 1000}};
        for (int[] row : asked) {
            Run.of(CHECK, "skew " + row[0], new LeasePair(2, 10, row[0]),
                    "skew(0, " + row[1] + ") = 0; skew(0, " + (row[1] + 1) + ") = illegal");
        }
    }

    private static void firstStateOfServers() {
        LeasePair pair = new LeasePair(5, 10, 2);
        int[][] first = {{2, 0, 1, 1, 1, 0, 3, 0, 0}, {2, 0, 1, 1, 1, 0, 2, 0, 0}};
        for (int s = 0; s < 2; s++) {
            for (int what = 0; what <= 8; what++) {
                CHECK.due("server(" + s + ", " + what + ")", pair.server(s, what), first[s][what]);
            }
        }
    }

    private static void firstStateOfRecords() {
        LeasePair pair = new LeasePair(5, 10, 2);
        for (int s = 0; s < 2; s++) {
            for (int a = 0; a < 5; a++) {
                CHECK.due("kind of " + a + " at " + s, pair.record(s, a, 0), a % 2 == s ? 1 : 0);
                CHECK.due("client of " + a + " at " + s, pair.record(s, a, 1), LeasePair.NONE);
                for (int what = 2; what <= 9; what++) {
                    CHECK.due("record(" + s + ", " + a + ", " + what + ")", pair.record(s, a, what), 0);
                }
            }
        }
    }

    private static void firstStateOfClientsAndNet() {
        LeasePair pair = new LeasePair(5, 10, 2);
        for (int c = 0; c < 16; c++) {
            CHECK.due("client(" + c + ", 0)", pair.client(c, 0), LeasePair.NONE);
            CHECK.due("client(" + c + ", 1)", pair.client(c, 1), 0);
            CHECK.due("client(" + c + ", 2)", pair.client(c, 2), 0);
        }
        CHECK.due("messages()", pair.messages(), 0);
        CHECK.due("most()", pair.most(), 0);
    }
}
