import java.util.Arrays;
import java.util.Random;

/**
 * "It changes nothing", in any state and of what no call shows, too: random
 * runs in which refused calls and looks stand between the calls, and still
 * every answer is the one that is due without them.
 */
public final class RefusedCallsTest {
    private static final Check CHECK = new Check("RefusedCallsTest");
    private static final int RUNS = 1500;
    /** With three calls more before each of them: 512. */
    private static final int CALLS = 128;

    private final RandomRun run;
    private final Random random;
    private final Calls pair;
    private RandomRun.Step step;

    private RefusedCallsTest(long seed) {
        run = new RandomRun(seed + 1_000_000, CALLS);
        random = new Random(seed);
        pair = new Calls(run.newPair());
    }

    public static void main(String[] args) {
        for (int seed = 0; seed < RUNS; seed++) {
            new RefusedCallsTest(seed).go();
        }
        CHECK.end();
    }

    private void go() {
        for (RandomRun.Step next : run.steps) {
            step = next;
            makeIllegalCall();
            makeVainCall();
            makeLook();
            expect(step.name(), step.arguments(), step.due());
        }
    }

    private void expect(String name, int[] arguments, String due) {
        CHECK.due(name + Arrays.toString(arguments), pair.answer(name, arguments), due);
    }

    private int pick(int... values) {
        return values[random.nextInt(values.length)];
    }

    /** The least and the greatest legal value of each argument. */
    private int[][] bounds(String name) {
        int[] server = {0, 1};
        int[] client = {0, 15};
        int[] address = {0, Math.min(Math.max(run.addresses, 2), 32) - 1};
        int[] place = {0, step.messages() - 1};
        switch (name) {
            case "seconds": return new int[][] {{0, 100000}};
            case "skew": return new int[][] {server, {0, Math.min(Math.max(run.skew, 0), 1000)}};
            case "fuse": return new int[][] {server, {0, 100}};
            case "ask": return new int[][] {client, {0, 2}, server, address, {1, 100000}};
            case "give": return new int[][] {server, {1, 32}};
            case "carry": return new int[][] {place};
            case "drop": return new int[][] {place};
            case "message": return new int[][] {place, {0, 6}};
            case "client": return new int[][] {client, {0, 2}};
            case "record": return new int[][] {server, address, {0, 9}};
            case "server": return new int[][] {server, {0, 8}};
            default: return new int[][] {server};
        }
    }

    private int[] legal(int[][] bounds) {
        int[] arguments = new int[bounds.length];
        for (int i = 0; i < bounds.length; i++) {
            arguments[i] = pick(bounds[i][0], bounds[i][1]);
        }
        return arguments;
    }

    private void makeIllegalCall() {
        String name = Calls.face()[random.nextInt(Calls.face().length)];
        if (pair.arguments(name) == 0) {
            return;
        }
        int[][] bounds = bounds(name);
        int[] arguments = legal(bounds);
        int at = random.nextInt(bounds.length);
        arguments[at] = pick(bounds[at][0] - 1, bounds[at][1] + 1, Integer.MIN_VALUE, Integer.MAX_VALUE);
        expect(name, arguments, Calls.ILLEGAL);
    }

    /** A call that is legal, but which the state of the server refuses. */
    private void makeVainCall() {
        int server = random.nextInt(2);
        int state = step.states()[server];
        boolean dead = state == 0;
        boolean counts = state == 2 && step.states()[1 - server] == 0;
        String name = Calls.face()[random.nextInt(Calls.face().length)];
        if (name.equals("kill") && dead || name.equals("start") && !dead || name.equals("partnerDown") && !counts) {
            expect(name, new int[] {server}, "false");
        } else if (name.equals("send") && dead || name.equals("tidy") && state < 2) {
            expect(name, new int[] {server}, "-1");
        } else if (name.equals("give") && state != 2) {
            expect(name, new int[] {server, pick(1, 32)}, "-1");
        } else if (name.equals("carryAll") && step.messages() == 0) {
            expect(name, new int[0], "0");
        }
    }

    private void makeLook() {
        String name = pick(0, 1) == 0 ? "record" : Calls.face()[13 + random.nextInt(6)];
        if (name.equals("messages")) {
            expect(name, new int[0], String.valueOf(step.messages()));
        } else if (name.equals("most")) {
            pair.answer(name);
        } else if (!name.equals("message") || step.messages() > 0) {
            int[] arguments = legal(bounds(name));
            CHECK.due(name + Arrays.toString(arguments) + " is illegal",
                    pair.answer(name, arguments).equals(Calls.ILLEGAL), false);
        }
    }
}
