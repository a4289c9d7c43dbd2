/** Promises 10 and 11: kill and reap, with the ways of a SIGNAL. */
public final class EndingTest {
    private static final Due DUE = new Due("promises 10, 11");

    public static void main(String[] args) {
        kill();
        reap();
        crowdedWays();
        DUE.close();
    }

    private static void kill() {
        DUE.run("kill -1 ! IllegalArgumentException", "kill 6 ! IllegalArgumentException",
                "kill 0 ! IllegalStateException", "spawn 0 0 = 0", "mail 0 0 1 0", "kill 0 = 0", "about 0 0 = ENDED",
                "about 0 3 = h", "about 0 1 = 0", "leaf 0 6 0 = NONE", "kill 0 ! IllegalStateException", "reap 0 = 6",
                "kill 0 ! IllegalStateException");
        DUE.run("program 0 A:@1B@1B@1B*1;", "spawn 0 0 = 0", "mail 0 0 1 0", "step 0 = 0", "about 0 4 = 14",
                "kill 0 = 3", "about 0 4 = 0", "about 1 4 = 0", "about 2 4 = 0", "about 3 4 = 0", "about 1 6 = 1",
                "about 2 6 = 1", "about 3 6 = 1", "about 4 6 = 0", "about 0 6 = 0", "deliver 0 3 = 4",
                "about 3 3 = h", "kill 2 = 0", "deliver 0 2 = 0");
    }

    private static void reap() {
        DUE.run("reap -1 ! IllegalArgumentException", "reap 6 ! IllegalArgumentException",
                "reap 0 ! IllegalStateException", "spawn 0 0 = 0", "reap 0 ! IllegalStateException", "spawn 0 0 = 1",
                "kill 0 = 0", "reap 0 = 5", "about 0 0 = FREE", "about 0 3 = NONE", "reap 0 ! IllegalStateException",
                "kill 1 = 0", "reap 1 = 6");
        // what is under way to and from it stays
        DUE.run("program 0 A:!#1@1B;", "spawn 0 0 = 0", "mail 0 0 1 0", "step 0 = 0", "send 0 0 2 0 = 1",
                "kill 0 = 1", "reap 0 = 5", "about 0 6 = 1", "about 0 12 = 1", "about 1 6 = 1", "spawn 0 0 = 0",
                "deliver 0 0 = 1", "deliver 6 0 = 1", "leaf 0 0 0 = 1", "leaf 0 1 0 = 2", "deliver 0 1 = 4");
    }

    /** Signals go behind four messages, till eight things are there. */
    private static void crowdedWays() {
        String[] calls = new String[64];
        int n = 0;
        calls[n++] = "program 0 (A,1):!A1!A2!A3!A4;(A,B):&A;";
        calls[n++] = "spawn 1 0 = 0";
        calls[n++] = "spawn 0 0 = 1";
        calls[n++] = "mail 1 3 1 0";
        calls[n++] = "step 1 = 0";
        for (int i = 5; i <= 9; i++) {
            calls[n++] = "mail 1 3 0 0";
            calls[n++] = "step 1 = 1";
            calls[n++] = "about 0 4 = 2";
            calls[n++] = "kill 1 = 1";
            calls[n++] = "about 0 7 = " + Math.min(i, 8);
            calls[n++] = "about 0 4 = 0";
            calls[n++] = "reap 1 = 5";
            calls[n++] = "spawn 0 0 = 1";
        }
        calls[n++] = "mail 1 3 1 0";
        calls[n++] = "step 1 ! UnsupportedOperationException";
        for (int i = 1; i <= 4; i++) {
            calls[n++] = "deliver 1 0 = 1";
        }
        calls[n++] = "leaf 0 3 0 = 4";
        calls[n++] = "deliver 1 0 = 4";
        calls[n++] = "deliver 1 0 = 0";
        calls[n++] = "deliver 1 0 = 0";
        calls[n++] = "deliver 1 0 = 0";
        calls[n++] = "deliver 1 0 ! NoSuchElementException";
        DUE.run(java.util.Arrays.copyOf(calls, n));
    }
}
