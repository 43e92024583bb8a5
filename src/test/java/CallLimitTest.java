/**
 * "An object is used for at most 512 calls after it has been made": all of
 * them are as due, the last one too; behind it what is answered is free, but
 * no call may throw by itself.
 */
public final class CallLimitTest {
    private static final Check CHECK = new Check("CallLimitTest");

    public static void main(String[] args) {
        requests();
        starts();
        changes();
        recoveries();
        callsBehindTheLimit();
        CHECK.end();
    }

    private static void requests() {
        LeasePair pair = new LeasePair(32, 10, 0);
        for (int call = 1; call <= 510; call++) {
            pair.ask(15, call % 3, 0, 31, 100000);
        }
        Run.of(CHECK, "calls 511 and 512, behind 510 requests", pair, "ask(15, 0, 0, 0, 1) = 511; messages() = 300");
    }

    private static void starts() {
        LeasePair pair = new LeasePair(2, 10, 0);
        for (int call = 1; call <= 508; call += 2) {
            pair.kill(0);
            pair.start(0);
        }
        Run.of(CHECK, "calls 509 to 512, behind 254 starts", pair,
                "server(0, 2) = 255; kill(0) = true; start(0) = true; server(0, 2) = 256");
    }

    private static void changes() {
        LeasePair pair = new LeasePair(2, 10, 0);
        pair.ask(0, 0, 0, 0, 10);
        for (int call = 2; call <= 509; call += 2) {
            pair.carry(0);
            pair.drop(1);
        }
        Run.of(CHECK, "calls 510 to 512, behind 254 changes of a record", pair,
                "record(0, 0, 4) = 254; carry(0) = true; record(0, 0, 4) = 255");
    }

    private static void recoveries() {
        LeasePair pair = new LeasePair(32, 10, 0);
        for (int call = 1; call <= 510; call += 5) {
            pair.kill(1);
            pair.start(1);
            pair.carryAll();
            pair.carryAll();
            pair.carryAll();
        }
        Run.of(CHECK, "calls 511 and 512, behind 102 recoveries", pair, "server(1, 4) = 103; messages() = 0");
    }

    private static void callsBehindTheLimit() {
        for (int seed = 0; seed < 40; seed++) {
            RandomRun run = new RandomRun(seed + 2_000_000, 4000);
            Calls pair = new Calls(run.newPair());
            for (RandomRun.Step step : run.steps) {
                String got = pair.answer(step.name(), step.arguments());
                CHECK.due(step.name() + " throws by itself", got.contains("Exception"), false);
            }
        }
    }
}
