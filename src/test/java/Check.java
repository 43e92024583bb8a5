/** Compares answers with those that are due, prints every wrong one, and ends a test. */
final class Check {
    private final String test;
    private int looks = 0;
    private int wrong = 0;

    /** A call that may throw. */
    interface Call {
        void run();
    }

    Check(String test) {
        this.test = test;
    }

    void due(String call, long got, long want) {
        due(call, String.valueOf(got), String.valueOf(want));
    }

    void due(String call, boolean got, boolean want) {
        due(call, String.valueOf(got), String.valueOf(want));
    }

    void due(String call, String got, String want) {
        looks++;
        if (!got.equals(want)) {
            wrong++;
            System.out.println(test + ": " + call + " answered " + got + ", due is " + want);
        }
    }

    /** The call throws an IllegalArgumentException, and no part of the state that can be seen changes. */
    void illegal(String call, LeasePair pair, Call run) {
        String before = Look.at(pair);
        String thrown = "nothing";
        try {
            run.run();
        } catch (RuntimeException e) {
            thrown = e.getClass().getSimpleName();
        }
        due(call + " throws IllegalArgumentException, threw " + thrown,
                thrown.equals("IllegalArgumentException"), true);
        due(call + " changes nothing", before.equals(Look.at(pair)), true);
    }

    void end() {
        System.out.println(test + ": " + looks + " answers looked at, " + wrong + " wrong");
        if (wrong != 0) {
            System.exit(1);
        }
    }
}
