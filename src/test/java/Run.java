import java.util.ArrayList;
import java.util.List;

/**
 * Runs of calls written as text, with the answers that are due:
 * "ask(1, 0, 0, 0, 1000) = 1; carryAll() = 1; skew(0, 9) = illegal".
 * Without "= answer" whatever is answered is right. A call of message, client,
 * record or server without its last argument answers for each "what" in turn:
 * "client(1) = 0 100 1"; there "_" stands for whatever it is.
 */
final class Run {
    private final Check check;
    private final String title;
    private final LeasePair pair;

    Run(Check check, String title, LeasePair pair) {
        this.check = check;
        this.title = title;
        this.pair = pair;
    }

    static void of(Check check, String title, LeasePair pair, String... lines) {
        Run run = new Run(check, title, pair);
        for (String line : lines) {
            for (String call : line.split(";")) {
                if (!call.isBlank()) {
                    run.step(call.trim());
                }
            }
        }
    }

    private void step(String text) {
        int equals = text.indexOf('=');
        String call = (equals < 0 ? text : text.substring(0, equals)).trim();
        String want = equals < 0 ? null : text.substring(equals + 1).trim();
        String name = call.substring(0, call.indexOf('('));
        int[] args = numbers(call.substring(call.indexOf('(') + 1, call.length() - 1));
        if ("illegal".equals(want)) {
            check.illegal(title + ": " + call, pair, () -> answer(name, args));
            return;
        }
        String got = answer(name, args);
        if (want != null) {
            check.due(title + ": " + call, got, mask(want, got));
        }
    }

    private static int[] numbers(String list) {
        List<Integer> found = new ArrayList<>();
        for (String part : list.split(",")) {
            if (!part.isBlank()) {
                found.add(Integer.parseInt(part.trim()));
            }
        }
        return found.stream().mapToInt(Integer::intValue).toArray();
    }

    private static String mask(String want, String got) {
        String[] wanted = want.split(" +");
        String[] gotten = got.split(" +");
        if (wanted.length != gotten.length) {
            return want;
        }
        for (int i = 0; i < wanted.length; i++) {
            if (wanted[i].equals("_")) {
                wanted[i] = gotten[i];
            }
        }
        return String.join(" ", wanted);
    }

    private String answer(String name, int[] a) {
        switch (name) {
            case "seconds": return "" + pair.seconds(a[0]);
            case "skew": return "" + pair.skew(a[0], a[1]);
            case "kill": return "" + pair.kill(a[0]);
            case "fuse": pair.fuse(a[0], a[1]); return "";
            case "start": return "" + pair.start(a[0]);
            case "partnerDown": return "" + pair.partnerDown(a[0]);
            case "ask": return "" + pair.ask(a[0], a[1], a[2], a[3], a[4]);
            case "send": return "" + pair.send(a[0]);
            case "tidy": return "" + pair.tidy(a[0]);
            case "give": return "" + pair.give(a[0], a[1]);
            case "carry": return "" + pair.carry(a[0]);
            case "carryAll": return "" + pair.carryAll();
            case "drop": return "" + pair.drop(a[0]);
            case "messages": return "" + pair.messages();
            case "message": return a.length == 2 ? "" + pair.message(a[0], a[1]) : rowOfMessage(a[0]);
            case "client": return a.length == 2 ? "" + pair.client(a[0], a[1]) : rowOfClient(a[0]);
            case "record": return a.length == 3 ? "" + pair.record(a[0], a[1], a[2]) : rowOfRecord(a[0], a[1]);
            case "server": return a.length == 2 ? "" + pair.server(a[0], a[1]) : rowOfServer(a[0]);
            case "most": return "" + pair.most();
            default: throw new IllegalStateException("no such call: " + name);
        }
    }

    private String rowOfMessage(int place) {
        StringBuilder row = new StringBuilder();
        for (int what = 0; what <= 6; what++) {
            row.append(what == 0 ? "" : " ").append(pair.message(place, what));
        }
        return row.toString();
    }

    private String rowOfClient(int client) {
        return pair.client(client, 0) + " " + pair.client(client, 1) + " " + pair.client(client, 2);
    }

    private String rowOfRecord(int server, int address) {
        StringBuilder row = new StringBuilder();
        for (int what = 0; what <= 9; what++) {
            row.append(what == 0 ? "" : " ").append(pair.record(server, address, what));
        }
        return row.toString();
    }

    private String rowOfServer(int server) {
        StringBuilder row = new StringBuilder();
        for (int what = 0; what <= 8; what++) {
            row.append(what == 0 ? "" : " ").append(pair.server(server, what));
        }
        return row.toString();
    }
}
