import java.util.Arrays;

/**
 * One sentence of the document, tried on both sides of its edge and at the
 * edge itself: the same run on a new pair for each row, with what stands in
 * the row in the places of its "%s".
 */
final class Edge {
    /** Client 1 got address 0 from server 0 until 20 as its request 1; server 1 knows; the net is empty. */
    static final String LEASED_AT_BOTH = "ask(1, 0, 0, 0, 20); carryAll(); drop(0); send(0); carryAll(); carryAll();";

    private Edge() {
    }

    /** The addresses, lead and skew of each new pair. */
    static int[] pair(int addresses, int lead, int skew) {
        return new int[] {addresses, lead, skew};
    }

    static Object[] row(Object... values) {
        return values;
    }

    static void of(Check check, String sentence, int[] pair, String calls, Object[]... rows) {
        for (Object[] row : rows) {
            Run.of(check, sentence + " " + Arrays.toString(row), new LeasePair(pair[0], pair[1], pair[2]),
                    String.format(calls, row));
        }
    }
}
