import java.util.ArrayList;
import java.util.Arrays;
import java.util.List;

/**
 * Runs of calls written as text, with the answers that are due:
 * "ask(1, 0, 0, 0, 1000) = 1; carryAll() = 1; skew(0, 9) = illegal".
 * Without "= answer" whatever is answered is right, if the call is legal. A call of message, client,
 * record or server without its last argument answers for each "what" in turn:
 * "client(1) = 0 100 1"; there "_" stands for whatever it is.
 */
final class Run {
    private final Check check;
    private final String title;
    private final LeasePair pair;
    private final Calls calls;

    Run(Check check, String title, LeasePair pair) {
        this.check = check;
        this.title = title;
        this.pair = pair;
        this.calls = new Calls(pair);
    }

    static void of(Check check, String title, LeasePair pair, String... lines) {
        Run run = new Run(check, title, pair);
        for (String line : lines) {
            for (String call : line.split(";")) {
                if (!call.isBlank()) {
                    run.step(call.trim());
                }
            }
        }
    }

    void step(String text) {
        int equals = text.indexOf('=');
        String call = (equals < 0 ? text : text.substring(0, equals)).trim();
        String want = equals < 0 ? null : text.substring(equals + 1).trim();
        String name = call.substring(0, call.indexOf('('));
        int[] args = numbers(call.substring(call.indexOf('(') + 1, call.length() - 1));
        if (Calls.ILLEGAL.equals(want)) {
            check.illegal(title + ": " + call, pair, () -> answer(name, args));
            return;
        }
        String got = answer(name, args);
        if (want == null) {
            check.due(title + ": " + call + " is illegal", got.equals(Calls.ILLEGAL), false);
        } else {
            check.due(title + ": " + call, got, mask(want, got));
        }
    }

    private static int[] numbers(String list) {
        List<Integer> found = new ArrayList<>();
        for (String part : list.split(",")) {
            if (!part.isBlank()) {
                found.add(Integer.parseInt(part.trim()));
            }
        }
        return found.stream().mapToInt(Integer::intValue).toArray();
    }

    private static String mask(String want, String got) {
        String[] wanted = want.split(" +");
        String[] gotten = got.split(" +");
        if (wanted.length != gotten.length) {
            return want;
        }
        for (int i = 0; i < wanted.length; i++) {
            if (wanted[i].equals("_")) {
                wanted[i] = gotten[i];
            }
        }
        return String.join(" ", wanted);
    }

    private String answer(String name, int[] arguments) {
        if (arguments.length == calls.arguments(name)) {
            return calls.answer(name, arguments);
        }
        int[] withWhat = Arrays.copyOf(arguments, arguments.length + 1);
        StringBuilder row = new StringBuilder();
        for (int what = 0; what < lookedAt(name); what++) {
            withWhat[arguments.length] = what;
            row.append(what == 0 ? "" : " ").append(calls.answer(name, withWhat));
        }
        return row.toString();
    }

    private static int lookedAt(String name) {
        switch (name) {
            case "message": return 7;
            case "client": return 3;
            case "record": return 10;
            case "server": return 9;
            default: throw new IllegalStateException("too few arguments: " + name);
        }
    }
}
