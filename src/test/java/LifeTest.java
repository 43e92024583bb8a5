/** Promises 4 (kill), 5 (fuse), 6 (start) and 7 (partnerDown). */
public final class LifeTest {
    private static final Check CHECK = new Check("LifeTest");

    public static void main(String[] args) {
        killing();
        burningAFuse();
        losingAFuse();
        starting();
        startingAnewForgetsWhatWasFresh();
        startingEndsWhatWasSole();
        declaringThePartnerDown();
        declaringInVain();
        CHECK.end();
    }

    private static void killing() {
        Run.of(CHECK, "kill", new LeasePair(3, 10, 0),
                "ask(1, 0, 0, 0, 5) = 1; carryAll() = 1; kill(0) = true; kill(0) = false",
                "server(0) = 0 0 1 1 1 0 1 1 1; record(0, 0) = 2 1 5 1 1 0 0 0 1 1; server(1, 0) = 2",
                "carry(0) = true; client(1, 0) = 0",
                "kill(1) = true; kill(-1) = illegal; kill(2) = illegal");
    }

    private static void burningAFuse() {
        Run.of(CHECK, "fuse of 1", new LeasePair(4, 10, 0),
                "fuse(0, 1); ask(1, 0, 0, 0, 5); carryAll() = 1",
                "server(0, 0) = 0; server(0, 8) = 1; messages() = 0; record(0, 0, 0) = 2");
        Run.of(CHECK, "fuse of 2 behind a write", new LeasePair(8, 10, 0),
                "give(0, 1) = 1; fuse(0, 2); give(0, 1) = 1; server(0, 0) = 2; give(0, 1) = 1; server(0, 0) = 0",
                "server(0, 8) = 3; server(1, 0) = 2");
        Run.of(CHECK, "fuse laid anew", new LeasePair(8, 10, 0),
                "fuse(1, 1); fuse(1, 2); give(1, 1) = 1; server(1, 0) = 2; fuse(1, 0); give(1, 1) = 1",
                "server(1, 0) = 2; fuse(1, 100); give(1, 1) = 1; server(1, 0) = 2");
        Run.of(CHECK, "illegal fuses", new LeasePair(8, 10, 0),
                "fuse(0, -1) = illegal; fuse(0, 101) = illegal; fuse(2, 1) = illegal; fuse(-1, 1) = illegal",
                "give(0, 1) = 1; server(0, 0) = 2");
        LeasePair longest = new LeasePair(2, 10, 0);
        longest.fuse(0, 100);
        longest.ask(0, 0, 0, 0, 5);
        for (int i = 1; i <= 99; i++) {
            longest.carry(0);
        }
        Run.of(CHECK, "fuse of 100", longest, "server(0, 8) = 99; server(0, 0) = 2; carry(0) = true",
                "server(0, 8) = 100; server(0, 0) = 0; messages() = 100");
    }

    private static void losingAFuse() {
        Run.of(CHECK, "a fuse is gone by death", new LeasePair(2, 10, 0),
                "fuse(0, 2); kill(0) = true; start(0) = true; server(0, 0) = 1; carryAll() = 1; carryAll() = 2",
                "server(0, 0) = 2; give(0, 1) = 1; server(0, 0) = 2");
        Run.of(CHECK, "a fuse laid when dead is gone by the start", new LeasePair(2, 10, 0),
                "kill(0) = true; fuse(0, 1); start(0) = true; server(0, 0) = 1; messages() = 1; carryAll() = 1",
                "carryAll() = 2; server(0, 0) = 2; server(0, 8) = 2");
        Run.of(CHECK, "a burnt fuse is none", new LeasePair(4, 10, 0),
                "fuse(1, 1); give(1, 1) = 1; server(1, 0) = 0; start(1) = true; server(1, 0) = 1; server(1, 8) = 2");
    }

    private static void starting() {
        Run.of(CHECK, "start", new LeasePair(2, 10, 0),
                "start(0) = false; start(1) = false; messages() = 0; start(-1) = illegal; start(2) = illegal",
                "ask(1, 0, 1, 0, 5); carryAll() = 1; drop(0) = 0; kill(1) = true; start(1) = true",
                "server(1) = 1 0 2 1 1 0 0 1 2; record(1, 1) = 2 1 5 1 1 0 0 0 1 1",
                "messages() = 1; message(0) = 2 0 1 0 -1 2 0; start(1) = false; messages() = 1; server(1, 2) = 2",
                "kill(1) = true; start(1) = true; server(1, 2) = 3; message(1) = 2 0 1 0 -1 3 0");
    }

    private static void startingAnewForgetsWhatWasFresh() {
        Run.of(CHECK, "fresh", new LeasePair(2, 10, 0),
                "kill(0); start(0); carryAll() = 1; messages() = 2; carry(0) = true; server(0, 0) = 1",
                // Both tell epoch 2, which is over by the second start.
                "kill(0); start(0); carry(0) = true; carry(1) = true; server(0, 0) = 1",
                "drop(0); drop(0); carryAll() = 4; drop(0) = 1; carry(0) = true; server(0, 0) = 1; server(0, 4) = 1",
                "send(0) = 1; carryAll() = 3; carry(2) = true; server(0, 0) = 1; carry(1) = true; server(0, 0) = 2",
                "server(0, 4) = 3; server(1, 3) = 3");
    }

    private static void startingEndsWhatWasSole() {
        Run.of(CHECK, "sole", new LeasePair(2, 10, 0),
                "kill(0); partnerDown(1) = true; record(1, 1, 9) = 4; kill(1); record(1, 1, 9) = 4; start(1) = true",
                "record(1, 1, 9) = 0");
    }

    private static void declaringThePartnerDown() {
        Run.of(CHECK, "partnerDown", new LeasePair(4, 10, 3),
                "seconds(20); skew(1, 2); ask(1, 0, 1, 0, 5); carryAll() = 1; kill(0); partnerDown(1) = true",
                "server(1) = 3 22 1 1 1 22 1 1 2; record(1, 0, 9) = 0; record(1, 1, 9) = 1; record(1, 2, 9) = 0",
                "record(1, 3, 9) = 4; seconds(5); skew(1, 0); server(1, 5) = 22");
        Run.of(CHECK, "declared down twice", new LeasePair(2, 10, 0),
                "kill(0); partnerDown(1) = true; ask(1, 0, 1, 0, 50); carry(0); record(1, 1, 9) = 5",
                "start(0); carryAll() = 3; record(1, 1, 9) = 1; server(1, 0) = 2; seconds(30); kill(0)",
                "partnerDown(1) = true; record(1, 1, 9) = 1; server(1, 5) = 30");
    }

    private static void declaringInVain() {
        Run.of(CHECK, "the partner lives", new LeasePair(2, 10, 0),
                "partnerDown(0) = false; partnerDown(1) = false; server(0) = 2 0 1 1 1 0 1 0 0",
                "partnerDown(2) = illegal; partnerDown(-1) = illegal");
        Run.of(CHECK, "the server does not serve", new LeasePair(2, 10, 0),
                "kill(0); seconds(3); partnerDown(0) = false; partnerDown(1) = true; seconds(3)",
                "partnerDown(1) = false; server(1, 5) = 3; server(1, 8) = 1",
                "start(0) = true; partnerDown(0) = false; kill(1); partnerDown(0) = false; server(0, 0) = 1",
                "partnerDown(1) = false");
        Run.of(CHECK, "the partner recovers", new LeasePair(2, 10, 0),
                "kill(0); start(0); partnerDown(1) = false; server(1, 0) = 2");
    }
}
