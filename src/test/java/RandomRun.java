import java.util.ArrayList;
import java.util.List;
import java.util.Random;

/** A random run of calls, the same for the same seed, with the answers that the model of the document gives. */
final class RandomRun {
    private static final int[] ODD = {Integer.MIN_VALUE, -2, -1, 0, 1, 2, 3, 9, 10, 16, 32, 33, 100, 101, 300, 1000,
        100000, 100001, Integer.MAX_VALUE};
    private static final String[] NAMES = Calls.face();
    /** How often each call is made, in the order of the names. */
    private static final int[] WEIGHTS = {6, 3, 1, 1, 4, 4, 16, 10, 6, 4, 24, 3, 8, 1, 6, 4, 10, 6, 1};

    /** A call with the answer that is due, and what is so before it: the messages, the states of both servers. */
    record Step(String name, int[] arguments, String due, int messages, int[] states) {
    }

    final int addresses;
    final int lead;
    final int skew;
    final List<Step> steps = new ArrayList<>();
    private final Random random;
    private final int clients;
    /** Whether messages are seldom taken from the net, so that it fills up. */
    private final boolean crowded;
    private final Model model;
    private final Calls calls;

    RandomRun(long seed, int length) {
        // Scattered, for neighbouring seeds would begin with the same numbers.
        random = new Random(seed * 0x9E3779B97F4A7C15L);
        crowded = random.nextInt(8) == 0;
        addresses = crowded ? random.nextInt(34) : 2 + random.nextInt(3);
        lead = random.nextInt(8) == 0 ? odd() : 3 + random.nextInt(30);
        skew = random.nextInt(8) == 0 ? odd() : random.nextInt(4);
        clients = 1 + random.nextInt(random.nextInt(4) == 0 ? 16 : 4);
        model = new Model(addresses, lead, skew);
        calls = new Calls(model);
        for (int i = 0; i < length; i++) {
            steps.add(step());
        }
    }

    LeasePair newPair() {
        return new LeasePair(addresses, lead, skew);
    }

    /** The model as it is behind the last step. */
    Calls model() {
        return calls;
    }

    private Step step() {
        String name = NAMES[pickCall()];
        int[] arguments = pickArguments(name);
        int messages = model.messages();
        int[] states = {model.server(0, 0), model.server(1, 0)};
        return new Step(name, arguments, calls.answer(name, arguments), messages, states);
    }

    private int odd() {
        return ODD[random.nextInt(ODD.length)];
    }

    private int pickCall() {
        int call = pickByWeight();
        boolean empties = NAMES[call].equals("carryAll") || NAMES[call].equals("drop");
        return crowded && empties && random.nextInt(8) > 0 ? pickByWeight() : call;
    }

    private int pickByWeight() {
        int sum = 0;
        for (int weight : WEIGHTS) {
            sum += weight;
        }
        int at = random.nextInt(sum);
        int call = 0;
        while (at >= WEIGHTS[call]) {
            at -= WEIGHTS[call];
            call++;
        }
        return call;
    }

    private int[] pickArguments(String name) {
        int[] a = likely(name);
        if (a.length > 0 && random.nextInt(40) == 0) {
            a[random.nextInt(a.length)] = odd();
        }
        return a;
    }

    private int[] likely(String name) {
        int server = random.nextInt(2);
        switch (name) {
            case "seconds": return new int[] {random.nextInt(30) == 0 ? random.nextInt(200) : random.nextInt(6)};
            case "skew": return new int[] {server, random.nextInt(4)};
            case "fuse": return new int[] {server, random.nextInt(8)};
            case "ask": return likelyRequest(server);
            case "give": return new int[] {server, 1 + random.nextInt(2)};
            case "carry": return new int[] {likelyPlace()};
            case "drop": return new int[] {random.nextInt(model.messages() + 1)};
            case "message": return new int[] {random.nextInt(model.messages() + 1), random.nextInt(7)};
            case "client": return new int[] {random.nextInt(clients), random.nextInt(3)};
            case "record": return new int[] {server, random.nextInt(3), random.nextInt(10)};
            case "server": return new int[] {server, random.nextInt(9)};
            default: return calls.arguments(name) == 0 ? new int[0] : new int[] {server};
        }
    }

    /** Rather one of the last ones, so that a good deal is heard in time. */
    private int likelyPlace() {
        int many = model.messages();
        return random.nextInt(3) == 0 ? random.nextInt(many + 1) : Math.max(0, many - 1 - random.nextInt(3));
    }

    private int[] likelyRequest(int server) {
        int client = random.nextInt(clients);
        int held = model.client(client, 0);
        int kind = new int[] {0, 0, 1, 1, 2}[random.nextInt(5)];
        int address = held >= 0 && random.nextInt(3) > 0 ? held : random.nextInt(3);
        return new int[] {client, kind, server, address, 1 + random.nextInt(60)};
    }
}
