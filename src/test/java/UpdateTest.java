/** The terms behind promises 10 to 13 and 18: how a server hears UPDATE. */
public final class UpdateTest {
    private static final Check CHECK = new Check("UpdateTest");

    public static void main(String[] args) {
        versions();
        boundToOther();
        boundToBound();
        boundToEnding();
        boundToWhatIsNotItsOwn();
        endingToBound();
        endingToEnding();
        endingToOther();
        given();
        givenThatIsLeasedAlready();
        own();
        voidWords();
        takenOverMeanwhile();
        takenOverAndGoneAgain();
        CHECK.end();
    }

    private static void versions() {
        Run.of(CHECK, "versions", new LeasePair(2, 100, 0),
                "ask(1, 0, 0, 0, 20); carryAll(); drop(0); send(0); ask(1, 1, 0, 0, 30); carry(1); drop(2); send(0)",
                "drop(1) = 2; carry(1) = true; record(1, 0) = 2 1 30 2 0 0 2 0 1 0; messages() = 3; server(1, 8) = 1",
                "message(2) = 4 0 1 0 0 2 30",
                // Less than SEEN: nothing; SEEN itself: an ACK once more.
                "carry(0) = true; messages() = 3; record(1, 0, 6) = 2; carry(1) = true; messages() = 4",
                "message(3) = 4 0 1 0 0 2 30; server(1, 8) = 1");
    }

    private static void boundToOther() {
        Run.of(CHECK, "BOUND to OTHER", new LeasePair(2, 100, 0),
                "ask(1, 0, 0, 0, 20); carryAll(); drop(0); send(0); carryAll(); record(1, 0) = 2 1 20 1 0 0 1 0 1 0",
                "message(0) = 4 0 1 0 0 1 20; ask(1, 1, 1, 0, 30); carryAll(); record(1, 0) = 2 1 30 2 1 0 1 0 1 1");
        Run.of(CHECK, "BOUND to OTHER that was bound before", new LeasePair(2, 100, 0),
                // The end and the request are the new client's, though less; since is behind the version.
                "ask(1, 0, 0, 0, 9); carryAll(); drop(0); ask(1, 1, 0, 0, 90); carryAll(); drop(0); send(0); carryAll()",
                "carryAll(); ask(1, 1, 1, 0, 95); carryAll(); drop(0); record(1, 0) = 2 1 95 3 1 0 2 0 1 1; send(1)",
                "carryAll(); carryAll(); record(1, 0, 5) = 95; ask(1, 2, 0, 0, 1); carryAll(); send(0); carryAll()",
                "carryAll(); record(1, 0) = 0 1 95 3 1 95 3 0 1 0; record(0, 0) = 1 1 95 4 3 90 1 0 1 2",
                "ask(2, 0, 0, 0, 9); carryAll(); drop(0); send(0); carryAll(); record(1, 0) = 2 2 9 1 1 0 4 0 2 0");
    }

    private static void boundToBound() {
        Run.of(CHECK, "BOUND to BOUND", new LeasePair(2, 100, 0), Edge.LEASED_AT_BOTH,
                "seconds(5); ask(1, 1, 0, 0, 40); ask(1, 1, 1, 0, 30); carryAll(); drop(0); drop(0)",
                "record(0, 0) = 2 1 45 2 2 20 0 0 1 1; record(1, 0) = 2 1 35 3 1 0 1 0 1 1; send(0); send(1)",
                "carryAll() = 2; record(0, 0) = 2 1 45 3 2 20 1 0 1 1; record(1, 0) = 2 1 45 3 1 0 2 0 1 1",
                "carryAll() = 2; record(0, 0) = 2 1 45 3 2 45 1 0 1 0; record(1, 0) = 2 1 45 3 1 35 2 0 1 0");
    }

    private static void boundToEnding() {
        Run.of(CHECK, "a greater request than the RELEASE", new LeasePair(2, 100, 0), Edge.LEASED_AT_BOTH,
                "ask(1, 2, 1, 0, 1); carryAll(); record(1, 0) = 3 1 20 2 1 0 1 0 1 3; ask(1, 0, 0, 0, 5); carryAll()",
                "drop(0); send(0); carryAll(); record(1, 0) = 2 1 20 3 2 0 2 0 1 1; message(0) = 4 0 1 0 0 2 20");
        Run.of(CHECK, "a lesser request than the RELEASE", new LeasePair(2, 100, 0), Edge.LEASED_AT_BOTH,
                "ask(1, 1, 0, 0, 50); ask(1, 2, 1, 0, 1); carryAll(); drop(0); record(0, 0, 2) = 50",
                "record(1, 0) = 3 1 20 3 1 0 1 0 1 3; send(0); carryAll(); record(1, 0) = 3 1 50 3 1 0 2 0 1 3",
                "message(0) = 4 0 1 0 0 2 50");
        Run.of(CHECK, "a greater end than of what was ended by time", new LeasePair(2, 100, 0), Edge.LEASED_AT_BOTH,
                "ask(1, 1, 1, 0, 30); carryAll(); drop(0); ask(1, 1, 0, 0, 1); carryAll(); drop(0)",
                // Server 1 is behind by a request, server 0 by an end; server 0 ends it first.
                "record(0, 0) = 2 1 20 3 2 20 0 0 1 1; record(1, 0) = 2 1 30 2 1 0 1 0 1 1; seconds(20); tidy(0) = 1",
                "record(0, 0) = 3 1 20 3 3 20 0 0 1 1; send(1); carryAll(); record(0, 0) = 2 1 30 3 4 20 1 0 1 1");
        Run.of(CHECK, "no greater end, no greater request", new LeasePair(2, 100, 0), Edge.LEASED_AT_BOTH,
                // The same RENEW twice makes a version that tells nothing more.
                "ask(1, 1, 1, 0, 5); carry(0); send(1); carry(2); record(0, 0) = 2 1 20 2 1 20 1 0 1 0; carry(0)",
                "send(1); message(5) = 3 0 1 2 0 2 20; seconds(20); tidy(0) = 1; messages() = 6; carry(5) = true",
                "record(0, 0) = 3 1 20 2 2 20 2 0 1 1; message(6) = 4 1 0 0 0 2 20");
    }

    private static void boundToWhatIsNotItsOwn() {
        Run.of(CHECK, "BOUND to another client's", new LeasePair(2, 19, 0),
                "kill(1); partnerDown(0); ask(0, 0, 0, 0, 50); carry(0); send(0); start(1); carry(2)",
                "record(1, 0) = 2 0 50 1 0 0 1 0 1 0; ask(0, 2, 0, 0, 1); carry(5); ask(1, 0, 0, 0, 13); carry(6)",
                "record(0, 0) = 2 1 13 1 3 0 0 0 3 5; send(0); messages() = 9; server(1, 8) = 2; carry(8) = true",
                "record(1, 0) = 2 0 50 1 0 0 1 0 1 0; messages() = 9; server(1, 8) = 2");
    }

    private static void endingToBound() {
        Run.of(CHECK, "by time", new LeasePair(2, 100, 3), Edge.LEASED_AT_BOTH,
                "skew(0, 1); seconds(19); tidy(0) = 1; send(0); carry(0) = true; messages() = 1; server(1, 8) = 1",
                "record(1, 0) = 2 1 20 1 0 0 1 0 1 0; seconds(1); carry(0) = true; messages() = 2; server(1, 8) = 2",
                "record(1, 0) = 0 1 20 1 0 0 2 0 1 0; message(1) = 4 0 1 0 0 2 0; carry(1)",
                "record(0, 0) = 1 1 20 1 2 20 0 0 1 0");
        Run.of(CHECK, "by a RELEASE", new LeasePair(2, 100, 3), Edge.LEASED_AT_BOTH,
                "ask(1, 2, 0, 0, 1); carryAll(); send(0); carryAll(); record(1, 0) = 0 1 20 1 0 0 2 0 1 0; carryAll()",
                "record(0, 0) = 1 1 20 2 2 20 0 0 1 2");
        Run.of(CHECK, "by a RELEASE that is overtaken", new LeasePair(2, 100, 3), Edge.LEASED_AT_BOTH,
                "ask(1, 2, 0, 0, 1); ask(1, 0, 1, 0, 30); carryAll(); drop(0); send(0); carry(0) = true; messages() = 1",
                "record(1, 0) = 2 1 30 3 1 0 1 0 1 1; server(1, 8) = 2");
        Run.of(CHECK, "the greater end, not pending any more", new LeasePair(2, 100, 3), Edge.LEASED_AT_BOTH,
                "ask(1, 1, 1, 0, 30); carryAll(); drop(0); record(1, 0, 9) = 1; ask(1, 2, 0, 0, 1); carryAll()",
                "send(0); carryAll(); record(1, 0) = 0 1 30 2 1 0 2 0 1 0");
        Run.of(CHECK, "the update's end when it is greater", new LeasePair(2, 100, 3), Edge.LEASED_AT_BOTH,
                "ask(1, 1, 0, 0, 40); carryAll(); drop(0); ask(1, 2, 0, 0, 1); carryAll(); send(0); carryAll()",
                "record(1, 0) = 0 1 40 1 0 0 3 0 1 0; message(0) = 4 0 1 0 0 3 0");
        Run.of(CHECK, "released at a server whose partner knows no release", new LeasePair(2, 100, 0), Edge.LEASED_AT_BOTH,
                // Ended by time, not released: a greater request alone does not do.
                "skew(0, 0); ask(1, 1, 0, 0, 20); carryAll(); drop(0); ask(1, 1, 1, 0, 90); carryAll(); drop(0)",
                "seconds(20); tidy(0) = 1; send(0); carryAll(); messages() = 0; record(1, 0, 0) = 2");
    }

    private static void endingToEnding() {
        Run.of(CHECK, "server 1 gives way", new LeasePair(2, 100, 0), Edge.LEASED_AT_BOTH,
                "seconds(20); tidy(0) = 1; tidy(1) = 1; record(1, 0) = 3 1 20 1 1 0 1 0 1 1; send(1) = 1; carryAll()",
                "messages() = 0; record(0, 0) = 3 1 20 1 2 20 0 0 1 1; server(0, 8) = 3; send(0); carryAll()",
                "record(1, 0) = 0 1 20 1 1 0 2 0 1 0; carryAll(); record(0, 0) = 1 1 20 1 2 20 1 0 1 0",
                "send(0) = 0; send(1) = 0");
    }

    private static void endingToOther() {
        Run.of(CHECK, "ENDING to OTHER", new LeasePair(2, 100, 0),
                "ask(1, 0, 0, 0, 20); ask(1, 2, 0, 0, 1); carryAll(); drop(0); send(0); carryAll()",
                "record(1, 0) = 0 -1 20 0 0 0 2 0 0 0; server(1, 8) = 1; message(0) = 4 0 1 0 0 2 0; carryAll()",
                "record(0, 0) = 1 1 20 2 2 0 0 0 1 2; ask(2, 0, 0, 0, 5); ask(2, 2, 0, 0, 1); carryAll(); drop(0)",
                "send(0); carryAll(); record(1, 0) = 0 -1 20 0 0 0 4 0 0 0");
    }

    private static void given() {
        Run.of(CHECK, "GIVEN to OTHER", new LeasePair(2, 100, 0),
                "give(0, 1); send(0); carryAll(); record(1, 0) = 1 -1 0 0 0 0 1 0 0 0; message(0) = 4 0 1 0 0 1 0",
                "server(1, 8) = 1; carryAll(); record(0, 0) = 0 -1 0 0 1 0 0 0 0 0");
        Run.of(CHECK, "GIVEN to what is OWN", new LeasePair(2, 10, 0),
                "give(0, 1); kill(0); partnerDown(1); seconds(10); tidy(1) = 1; start(0); send(0) = 2; messages() = 3",
                "carry(2) = true; record(1, 0) = 1 -1 0 0 1 0 -1 1 0 5; messages() = 3; server(1, 8) = 2");
        Run.of(CHECK, "GIVEN back and once more", new LeasePair(2, 100, 0),
                // Server 1 has not heard that what it gave back was taken.
                "give(0, 1); send(0); carryAll(); carryAll(); give(1, 1); send(1); carry(0); give(0, 1); send(0) = 1",
                "message(2) = 3 1 0 4 0 2 0; ask(1, 0, 1, 0, 9); carry(3); carry(2) = true",
                "record(1, 0) = 1 -1 0 0 1 0 2 0 0 0");
    }

    private static void givenThatIsLeasedAlready() {
        Run.of(CHECK, "BOUND to GIVEN that was taken", new LeasePair(2, 100, 0),
                "give(0, 1); send(0); carryAll(); drop(0); ask(1, 0, 1, 0, 9); carryAll(); drop(0); send(1) = 1",
                "record(0, 0) = 4 -1 0 0 1 0 0 0 0 1; carryAll(); record(0, 0) = 2 1 9 1 1 0 1 0 2 0",
                "message(0) = 4 1 0 0 0 1 9; carryAll(); record(1, 0) = 2 1 9 1 1 9 1 0 1 0; send(0) = 0");
        Run.of(CHECK, "GIVEN to GIVEN that was taken", new LeasePair(2, 100, 0),
                "give(0, 1); send(0); carryAll(); drop(0); give(1, 1); send(1) = 1; carryAll()",
                "record(0, 0) = 1 -1 0 0 1 0 1 0 0 0; carryAll(); record(1, 0) = 0 -1 0 0 1 0 1 0 0 0");
    }

    private static void own() {
        Run.of(CHECK, "OWN to OTHER", new LeasePair(2, 100, 0),
                "kill(0); partnerDown(1); ask(1, 0, 1, 0, 9); ask(1, 2, 1, 1, 1); carryAll(); drop(0); start(0)",
                "carryAll(); messages() = 2; message(1) = 3 0 1 1 1 2 9; carry(1) = true; server(0, 8) = 2",
                "record(0, 1) = 0 -1 0 0 0 0 2 0 0 0; message(2) = 4 1 0 0 1 2 0; carry(2); record(1, 1, 9) = 2",
                "record(1, 1, 0) = 1");
    }

    private static void voidWords() {
        Run.of(CHECK, "an UPDATE of an epoch that is VOID", new LeasePair(2, 10, 0),
                "ask(1, 0, 0, 0, 5); carry(0); drop(0); drop(0); send(0) = 1; kill(0); partnerDown(1); seconds(10)",
                "tidy(1) = 1; ask(1, 0, 1, 0, 3); carry(1); record(1, 0) = 2 1 13 2 2 0 -1 1 2 5; messages() = 3",
                "carry(0) = true; record(1, 0) = 2 1 13 2 2 0 -1 1 2 5; messages() = 3; server(1, 8) = 3");
        Run.of(CHECK, "an UPDATE of the epoch behind VOID", new LeasePair(2, 10, 0),
                "ask(1, 0, 0, 0, 5); carry(0); drop(0); drop(0); kill(0); partnerDown(1); seconds(10); tidy(1) = 1",
                "ask(1, 0, 1, 0, 3); carry(0); start(0); send(0) = 2; messages() = 5; carry(4) = true",
                "record(1, 0) = 2 1 13 2 2 0 1 1 2 5; message(5) = 4 0 1 0 0 1 5");
        Run.of(CHECK, "an ACK of an epoch that is VOID", new LeasePair(2, 10, 0),
                "give(1, 1); send(1); carry(0); messages() = 2; kill(0); partnerDown(1); seconds(10); tidy(1) = 2",
                "record(1, 1) = 1 -1 0 0 2 0 -1 1 0 5; carry(1) = true; record(1, 1) = 1 -1 0 0 2 0 -1 1 0 5",
                "server(1, 8) = 3");
    }

    private static void takenOverMeanwhile() {
        Run.of(CHECK, "BOUND to what was bound to another", new LeasePair(2, 10, 0),
                "ask(1, 0, 0, 0, 5); carryAll(); drop(0); kill(0); partnerDown(1); seconds(10); tidy(1) = 1",
                "ask(2, 0, 1, 0, 30); carryAll(); drop(0); record(1, 0) = 2 2 40 1 2 0 -1 1 2 5; start(0); carryAll()",
                "record(0, 0) = 2 1 5 1 1 0 0 0 1 1; carry(0); record(0, 0) = 2 2 40 1 1 0 2 0 2 0; messages() = 3",
                "message(2) = 4 1 0 0 0 2 40; server(0, 0) = 1; carry(1); server(0, 0) = 2; server(0, 4) = 2");
        Run.of(CHECK, "OWN to what was OWN", new LeasePair(2, 10, 0),
                "kill(0); partnerDown(1); seconds(10); tidy(1) = 1; start(0); carryAll(); record(0, 0, 0) = 1; carry(0)",
                "record(0, 0) = 0 -1 0 0 0 0 1 0 0 0; carry(1); server(0, 0) = 2; server(0, 6) = 0");
        Run.of(CHECK, "behind LIVE the word of VOID is over", new LeasePair(2, 10, 0),
                "kill(0); partnerDown(1); seconds(10); tidy(1) = 1; start(0); carryAll(); carryAll(); carryAll()",
                "server(0, 4) = 2; give(1, 1) = 1; send(1); carryAll(); record(0, 0) = 1 -1 0 0 0 0 2 0 0 0; carryAll()",
                "ask(3, 0, 0, 0, 5); carryAll(); drop(0); record(0, 0, 1) = 3; kill(0); start(0); carryAll()",
                // VOID of server 1 is 1, less than 2, the epoch in which server 0 served last.
                "message(0) = 3 0 1 0 0 2 0; carryAll(); record(0, 0) = 2 3 15 1 1 0 2 0 1 1");
        Run.of(CHECK, "only a RECOVERING server gives way to VOID", new LeasePair(2, 10, 0),
                "kill(0); partnerDown(1); seconds(10); tidy(1) = 1; start(0); carryAll(); carryAll(); server(0, 0) = 2",
                "ask(1, 0, 1, 0, 5); carryAll(); drop(0); ask(1, 1, 1, 0, 8); carryAll(); drop(0); send(1); carryAll()",
                "record(0, 0, 0) = 2; ask(1, 2, 0, 0, 1); carryAll(); record(0, 0, 0) = 3");
    }

    private static void takenOverAndGoneAgain() {
        Run.of(CHECK, "OTHER by what was taken over", new LeasePair(2, 10, 0),
                "ask(1, 0, 0, 0, 10); carryAll(); drop(0); send(0); carryAll(); carryAll(); seconds(10); tidy(0) = 1",
                "kill(0); partnerDown(1); seconds(10); tidy(1) = 1; ask(1, 0, 1, 0, 5); carryAll(); drop(0)",
                "record(1, 0) = 2 1 25 2 2 0 -1 1 2 5; seconds(10); start(0); send(0) = 2; messages() = 3; carry(0)",
                "carry(2); record(1, 0) = 0 1 25 2 2 0 2 1 2 0; record(0, 0) = 3 1 10 1 2 10 0 0 1 1",
                "drop(0); drop(1); drop(1); drop(1); drop(1); messages() = 1; carryAll() = 1; messages() = 2",
                "message(0) = 3 0 1 0 0 2 25; carry(0) = true; record(0, 0) = 1 1 10 1 2 10 2 0 1 0",
                "message(2) = 4 1 0 0 0 2 0");
    }
}
