/** Promise 8. */
public final class DeliverTest {
    private static final Due DUE = new Due("promise 8");

    public static void main(String[] args) {
        ranges();
        messages();
        fullMailbox();
        signals();
        trapped();
        DUE.close();
    }

    private static void ranges() {
        DUE.run("deliver -1 0 ! IllegalArgumentException", "deliver 7 0 ! IllegalArgumentException",
                "deliver 0 -1 ! IllegalArgumentException", "deliver 0 6 ! IllegalArgumentException",
                "deliver 6 6 ! IllegalArgumentException", "deliver 6 5 ! NoSuchElementException");
    }

    private static void messages() {
        DUE.run("send 0 0 1 0 = 1", "send 0 0 2 0 = 2", "deliver 6 0 = 0", "about 0 12 = 1", "spawn 0 0 = 0",
                "deliver 6 0 = 1", "leaf 0 0 0 = 2", "deliver 6 0 ! NoSuchElementException", "send 0 0 3 0 = 1",
                "send 0 0 4 0 = 2", "deliver 6 0 = 1", "deliver 6 0 = 1", "leaf 0 0 0 = 2", "leaf 0 1 0 = 3",
                "leaf 0 2 0 = 4", "kill 0 = 0", "send 0 0 5 0 = 1", "deliver 6 0 = 0", "about 0 1 = 0",
                "deliver 6 0 ! NoSuchElementException");
        // from itself, and between two
        DUE.run("program 0 (A,B):!AB!##;", "spawn 0 0 = 0", "spawn 0 0 = 1", "mail 0 3 7 1", "step 0 = 0",
                "about 1 6 = 1", "about 0 6 = 1", "about 0 7 = 0", "deliver 1 0 ! NoSuchElementException",
                "deliver 0 1 = 1", "leaf 1 0 0 = 7", "deliver 0 0 = 1", "leaf 0 0 0 = #0", "about 1 6 = 0");
    }

    private static void fullMailbox() {
        DUE.run("spawn 0 0 = 0", "mail 0 0 1 0", "mail 0 0 2 0", "mail 0 0 3 0", "mail 0 0 4 0", "mail 0 0 5 0",
                "mail 0 0 6 0", "send 0 0 7 0 = 1", "deliver 6 0 ! IllegalStateException", "about 0 12 = 1",
                "about 0 1 = 6", "leaf 0 5 0 = 6", "deliver 5 0 ! NoSuchElementException", "kill 0 = 0",
                "deliver 6 0 = 0", "about 0 12 = 0");
    }

    private static void signals() {
        // program 0 makes one that ends with the reason that it is told
        DUE.run("program 1 A:$A;", "program 0 A:@1B!BA;", "spawn 0 0 = 0", "mail 0 1 0 0", "step 0 = 0",
                "deliver 0 1 = 1", "step 1 = 0", "about 1 3 = a", "about 0 7 = 1", "deliver 1 0 = 3",
                "about 0 0 = ALIVE", "about 0 7 = 0", "about 0 4 = 0");
        DUE.run("program 1 A:$A;", "program 0 A:@1B!BA;", "spawn 0 0 = 0", "mail 0 0 0 0", "step 0 = 0",
                "deliver 0 1 = 1", "step 1 = 0", "about 1 3 = 0", "deliver 1 0 = 4", "about 0 0 = ENDED",
                "about 0 3 = 0");
        DUE.run("program 1 A:$A;", "program 0 A:@1B!BA;", "spawn 0 0 = 0", "mail 0 3 9 0", "step 0 = 0",
                "deliver 0 1 = 1", "step 1 = 0", "about 1 3 = #0", "deliver 1 0 = 4", "about 0 3 = #0");
        // lost if the receiver is gone; a full mailbox does not matter to one that is not trapping
        DUE.run("program 0 A:@1B;", "spawn 0 0 = 0", "mail 0 0 1 0", "step 0 = 0", "kill 1 = 1", "kill 0 = 0",
                "about 0 7 = 1", "deliver 1 0 = 0", "about 0 7 = 0", "about 0 3 = h");
        DUE.run("program 0 9:@1B;", "spawn 0 0 = 0", "mail 0 0 9 0", "step 0 = 0", "kill 1 = 1", "mail 0 0 1 0",
                "mail 0 0 1 0", "mail 0 0 1 0", "mail 0 0 1 0", "mail 0 0 1 0", "mail 0 0 1 0", "about 0 1 = 6",
                "deliver 1 0 = 4", "about 0 1 = 0", "about 0 3 = h");
        // the ending is handed on along a chain
        DUE.run("program 0 A:@1B!BA;", "program 1 A:@2B;", "spawn 0 0 = 0", "mail 0 0 3 0", "step 0 = 0",
                "deliver 0 1 = 1", "step 1 = 0", "about 1 4 = 5", "kill 2 = 1", "about 1 4 = 1", "deliver 2 1 = 4",
                "about 0 4 = 0", "deliver 1 0 = 4", "about 0 3 = h", "deliver 0 1 ! NoSuchElementException");
        // messages sent before the end come first
        DUE.run("program 1 A:!A5$c;", "program 0 a:@1B!B#;_:;", "spawn 0 0 = 0", "mail 0 1 0 0", "step 0 = 0",
                "deliver 0 1 = 1", "step 1 = 0", "about 0 7 = 2", "deliver 1 0 = 1", "leaf 0 0 0 = 5",
                "deliver 1 0 = 4", "about 0 3 = c");
    }

    private static void trapped() {
        DUE.run("program 0 9:*1@1B;", "spawn 0 0 = 0", "mail 0 0 9 0", "step 0 = 0", "kill 1 = 1", "deliver 1 0 = 2",
                "about 0 0 = ALIVE", "shape 0 0 = 122", "leaf 0 0 0 = g", "leaf 0 0 1 = #1", "leaf 0 0 2 = h",
                "leaf 0 0 3 = NONE", "about 0 7 = 0");
        // atom a is trapped too
        DUE.run("program 1 A:$A;", "program 0 A:*1@1B!BA;", "spawn 0 0 = 0", "mail 0 1 0 0", "step 0 = 0",
                "deliver 0 1 = 1", "step 1 = 0", "deliver 1 0 = 2", "leaf 0 0 2 = a");
        // a full mailbox refuses it, and it stays
        DUE.run("program 0 9:*1@1B;(g,A):~A;", "spawn 0 0 = 0", "mail 0 0 9 0", "step 0 = 0", "kill 1 = 1",
                "mail 0 0 1 0", "mail 0 0 1 0", "mail 0 0 1 0", "mail 0 0 1 0", "mail 0 0 1 0", "mail 0 0 9 0",
                "deliver 1 0 ! IllegalStateException", "about 0 7 = 1", "about 0 1 = 6", "step 0 = 500",
                "deliver 1 0 = 2", "leaf 0 5 0 = g", "step 0 = 501", "shape 0 6 = 11", "leaf 0 6 0 = #1",
                "leaf 0 6 1 = h");
        // trapping may be given up again
        DUE.run("program 0 9:*1@1B;8:*0;", "spawn 0 0 = 0", "mail 0 0 9 0", "step 0 = 0", "mail 0 0 8 0",
                "step 0 = 1", "about 0 2 = 0", "kill 1 = 1", "deliver 1 0 = 4");
    }
}
