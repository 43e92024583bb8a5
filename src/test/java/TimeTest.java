/** Promises 2 (seconds) and 3 (skew); ArgumentEdgesTest has the end of time. */
public final class TimeTest {
    private static final Check CHECK = new Check("TimeTest");

    public static void main(String[] args) {
        timeGoesOn();
        offsets();
        CHECK.end();
    }

    private static void timeGoesOn() {
        Run.of(CHECK, "seconds", new LeasePair(2, 10, 5),
                "seconds(0) = 0; seconds(7) = 7; seconds(100000) = 100007; seconds(0) = 100007",
                "server(0, 1) = 100007; server(1, 1) = 100007",
                "seconds(-1) = illegal; seconds(100001) = illegal",
                "seconds(-2147483648) = illegal; seconds(2147483647) = illegal",
                "seconds(1) = 100008");
    }

    private static void offsets() {
        Run.of(CHECK, "skew", new LeasePair(2, 10, 5),
                "skew(0, 5) = 0; skew(0, 3) = 5; skew(0, 3) = 3; skew(1, 1) = 0",
                "server(0, 1) = 3; server(1, 1) = 1; seconds(10) = 10; server(0, 1) = 13; server(1, 1) = 11",
                "skew(0, 0) = 3; server(0, 1) = 10",
                "skew(0, -1) = illegal; skew(0, 6) = illegal; skew(-1, 0) = illegal; skew(2, 0) = illegal",
                "kill(1) = true; skew(1, 4) = 1; server(1, 1) = 14");
        Run.of(CHECK, "no skew", new LeasePair(2, 10, 0), "skew(1, 0) = 0; skew(1, 1) = illegal");
    }
}
