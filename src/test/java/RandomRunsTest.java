import java.util.ArrayList;
import java.util.Arrays;
import java.util.List;

/**
 * All promises: random runs of 512 calls, the same each time, against the
 * model of the document; behind each run all that can be seen is compared.
 */
public final class RandomRunsTest {
    private static final int RUNS = 4000;
    private static final int CALLS = 512;

    public static void main(String[] args) {
        int runs = args.length > 0 ? Integer.parseInt(args[0]) : RUNS;
        for (int seed = 0; seed < runs; seed++) {
            if (!isAsDue(new RandomRun(seed, CALLS))) {
                System.out.println("RandomRunsTest: run " + seed + " is not as due");
                System.exit(1);
            }
        }
        System.out.println("RandomRunsTest: " + runs + " runs as due");
    }

    private static boolean isAsDue(RandomRun run) {
        List<String> told = new ArrayList<>();
        told.add("new LeasePair(" + run.addresses + ", " + run.lead + ", " + run.skew + ")");
        int addresses = Math.min(Math.max(run.addresses, 2), 32);
        Calls pair = new Calls(run.newPair());
        for (RandomRun.Step step : run.steps) {
            String got = pair.answer(step.name(), step.arguments());
            told.add(step.name() + Arrays.toString(step.arguments()) + " answered " + got + ", due is " + step.due());
            if (!got.equals(step.due())) {
                told.forEach(System.out::println);
                return false;
            }
        }
        String wrong = firstWrongLook(pair, run.model(), addresses);
        told.add(wrong);
        if (!wrong.isEmpty()) {
            told.forEach(System.out::println);
        }
        return wrong.isEmpty();
    }

    private static String firstWrongLook(Calls pair, Calls model, int addresses) {
        for (Seen look : looks(addresses, Integer.parseInt(model.answer("messages")))) {
            String got = pair.answer(look.name, look.arguments);
            String due = model.answer(look.name, look.arguments);
            if (!got.equals(due)) {
                return look.name + Arrays.toString(look.arguments) + " answered " + got + " at the end, due is " + due;
            }
        }
        return "";
    }

    private static List<Seen> looks(int addresses, int messages) {
        List<Seen> looks = new ArrayList<>();
        looks.add(new Seen("messages"));
        looks.add(new Seen("most"));
        for (int server = 0; server < 2; server++) {
            for (int what = 0; what < 9; what++) {
                looks.add(new Seen("server", server, what));
            }
            for (int i = 0; i < addresses * 10; i++) {
                looks.add(new Seen("record", server, i / 10, i % 10));
            }
        }
        for (int i = 0; i < 16 * 3; i++) {
            looks.add(new Seen("client", i / 3, i % 3));
        }
        for (int i = 0; i < messages * 7; i++) {
            looks.add(new Seen("message", i / 7, i % 7));
        }
        return looks;
    }

    private static final class Seen {
        final String name;
        final int[] arguments;

        Seen(String name, int... arguments) {
            this.name = name;
            this.arguments = arguments;
        }
    }
}
