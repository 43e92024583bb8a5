/** Compares answers with those that are due, prints every wrong one, and ends a test. */
final class Check {
    private final String test;
    private int looks = 0;
    private int wrong = 0;

    /** A call, with its answer as a text. */
    interface Call {
        String answer();
    }

    Check(String test) {
        this.test = test;
    }

    void due(String call, long got, long want) {
        due(call, String.valueOf(got), String.valueOf(want));
    }

    void due(String call, boolean got, boolean want) {
        due(call, String.valueOf(got), String.valueOf(want));
    }

    void due(String call, String got, String want) {
        looks++;
        if (!got.equals(want)) {
            wrong++;
            System.out.println(test + ": " + call + " answered " + got + ", due is " + want);
        }
    }

    /** The call throws an IllegalArgumentException, and nothing that can be seen of the pair changes. */
    void illegal(String what, LeasePair pair, Call call) {
        String before = Look.at(pair);
        due(what, call.answer(), Calls.ILLEGAL);
        due(what + " changes nothing", before.equals(Look.at(pair)), true);
    }

    void end() {
        System.out.println(test + ": " + looks + " answers looked at, " + wrong + " wrong");
        if (wrong != 0) {
            System.exit(1);
        }
    }
}
