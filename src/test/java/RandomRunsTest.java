import java.util.ArrayList;
import java.util.Arrays;
import java.util.List;

/** All promises: random runs of 512 calls, the same each time, against the model of the document. */
public final class RandomRunsTest {
    private static final int RUNS = 4000;
    private static final int CALLS = 512;

    public static void main(String[] args) {
        int runs = args.length > 0 ? Integer.parseInt(args[0]) : RUNS;
        for (int seed = 0; seed < runs; seed++) {
            if (!isAsDue(new RandomRun(seed, CALLS))) {
                System.out.println("RandomRunsTest: run " + seed + " is not as due");
                System.exit(1);
            }
        }
        System.out.println("RandomRunsTest: " + runs + " runs as due");
    }

    private static boolean isAsDue(RandomRun run) {
        List<String> told = new ArrayList<>();
        told.add("new LeasePair(" + run.addresses + ", " + run.lead + ", " + run.skew + ")");
        Calls pair = new Calls(run.newPair());
        for (RandomRun.Step step : run.steps) {
            String got = pair.answer(step.name(), step.arguments());
            told.add(step.name() + Arrays.toString(step.arguments()) + " answered " + got + ", due is " + step.due());
            if (!got.equals(step.due())) {
                told.forEach(System.out::println);
                return false;
            }
        }
        return true;
    }
}
