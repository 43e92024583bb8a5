/** The terms behind promises 12 and 18: how a server hears ACK. */
public final class AckTest {
    private static final Check CHECK = new Check("AckTest");

    public static void main(String[] args) {
        Run.of(CHECK, "of a lease", new LeasePair(2, 100, 0),
                "ask(1, 0, 0, 0, 20); carryAll(); drop(0); send(0); carryAll(); messages() = 1; carry(0) = true",
                "record(0, 0) = 2 1 20 1 1 20 0 0 1 0; server(0, 8) = 2; carry(0) = true; server(0, 8) = 2",
                "record(0, 0) = 2 1 20 1 1 20 0 0 1 0");
        Run.of(CHECK, "of an earlier version", new LeasePair(2, 100, 0),
                "ask(1, 0, 0, 0, 20); carryAll(); drop(0); send(0); carryAll(); ask(1, 1, 0, 0, 30); carry(1); carry(0)",
                "record(0, 0) = 2 1 30 2 2 20 0 0 1 1; server(0, 8) = 3");
        Run.of(CHECK, "known does not shrink", new LeasePair(2, 100, 0),
                "ask(1, 0, 0, 0, 20); carryAll(); drop(0); send(0); carryAll(); ask(1, 1, 0, 0, 30); carry(1); send(0)",
                "carry(3); carry(4); record(0, 0) = 2 1 30 2 2 30 0 0 1 0; server(0, 8) = 3; carry(0)",
                "record(0, 0, 5) = 30; server(0, 8) = 3");
        Run.of(CHECK, "of the client before", new LeasePair(2, 100, 0),
                "ask(1, 0, 0, 0, 20); carryAll(); drop(0); send(0); carryAll(); ask(1, 2, 0, 0, 1); carry(1); drop(1)",
                "send(0); carry(1); carry(2); record(0, 0) = 1 1 20 2 2 0 0 0 1 2; ask(2, 0, 0, 0, 9); carry(3)",
                "record(0, 0) = 2 2 9 1 3 0 0 0 3 1; carry(0); record(0, 0, 5) = 0; server(0, 8) = 4");
        Run.of(CHECK, "of what is ENDING", new LeasePair(2, 100, 0),
                "ask(1, 0, 0, 0, 20); carryAll(); drop(0); send(0); carryAll(); seconds(20); tidy(0) = 1; carry(0)",
                "record(0, 0) = 3 1 20 1 2 20 0 0 1 1; server(0, 8) = 3; drop(0); send(0); carryAll(); carry(0)",
                "record(0, 0) = 1 1 20 1 2 20 0 0 1 0; server(0, 8) = 4; carry(0); server(0, 8) = 4");
        Run.of(CHECK, "of what is free no end is known", new LeasePair(2, 100, 0),
                "ask(1, 0, 0, 0, 20); carryAll(); drop(0); send(0); carryAll(); ask(1, 2, 0, 0, 1); carry(1); drop(1)",
                "send(0); carry(1); carry(2); record(0, 0, 0) = 1; carry(0) = true; record(0, 0, 5) = 0");
        Run.of(CHECK, "SEEN by it, of what was ENDING", new LeasePair(2, 100, 0),
                "ask(1, 0, 0, 0, 20); carryAll(); drop(0); send(0); carryAll(); carryAll(); ask(1, 1, 1, 0, 30)",
                "carryAll(); drop(0); record(1, 0, 4) = 1; ask(1, 2, 0, 0, 1); carryAll(); send(1); send(0); carry(1)",
                "record(1, 0, 0) = 0; carry(2); record(0, 0) = 1 1 20 3 2 20 1 0 1 2",
                // The UPDATE that was behind is only acknowledged now.
                "carry(0); record(0, 0) = 1 1 20 3 2 20 1 0 1 2; messages() = 4; message(3) = 4 1 0 0 0 1 30");
        Run.of(CHECK, "SEEN by it, of what was GIVEN", new LeasePair(2, 100, 0),
                "give(0, 1); send(0); carry(0); drop(1); give(1, 1); record(1, 0, 4) = 1; carry(0); carry(1)",
                "record(0, 0) = 0 -1 0 0 1 0 1 0 0 0; server(0, 8) = 2");
        Run.of(CHECK, "SEEN stays by it, of a lease", new LeasePair(2, 100, 0),
                "ask(1, 0, 0, 0, 20); carryAll(); drop(0); send(0); carryAll(); carryAll(); ask(1, 1, 1, 0, 30)",
                "carryAll(); drop(0); ask(1, 1, 0, 0, 40); carryAll(); drop(0); send(0); carryAll(); carryAll()",
                "record(1, 0, 4) = 1; record(0, 0) = 2 1 40 3 2 40 0 0 1 0");
        CHECK.end();
    }
}
