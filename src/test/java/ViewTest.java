/** Promises 12, 13 and 14: leaf, shape and about. */
public final class ViewTest {
    private static final Due DUE = new Due("promises 12, 13, 14");

    public static void main(String[] args) {
        ranges();
        shapes();
        about();
        DUE.close();
    }

    private static void ranges() {
        DUE.run("leaf -1 0 0 ! IllegalArgumentException", "leaf 6 0 0 ! IllegalArgumentException",
                "leaf 0 -1 0 ! IllegalArgumentException", "leaf 0 7 0 ! IllegalArgumentException",
                "leaf 0 0 -1 ! IllegalArgumentException", "leaf 0 0 4 ! IllegalArgumentException",
                "leaf 5 6 3 = NONE", "leaf 5 5 3 = NONE");
        DUE.run("shape -1 0 ! IllegalArgumentException", "shape 6 0 ! IllegalArgumentException",
                "shape 0 -1 ! IllegalArgumentException", "shape 0 7 ! IllegalArgumentException", "shape 5 6 = NONE",
                "shape 5 5 = NONE");
        DUE.run("about -1 0 ! IllegalArgumentException", "about 6 0 ! IllegalArgumentException",
                "about 0 -1 ! IllegalArgumentException", "about 0 13 ! IllegalArgumentException", "about 5 12 = 0");
        DUE.run("about " + Integer.MIN_VALUE + " 0 ! IllegalArgumentException",
                "leaf 0 " + Integer.MAX_VALUE + " 0 ! IllegalArgumentException",
                "leaf 0 0 " + Integer.MIN_VALUE + " ! IllegalArgumentException");
    }

    private static void shapes() {
        shape("-0'99", 0, "-99");
        shape("h", 0, "h");
        shape("#", 0, "#0");
        shape("(1,a)", 11, "1", "a");
        shape("(1,(b,3))", 122, "1", "b", "3");
        shape("((1,b),3)", 221, "1", "b", "3");
        shape("((1,2),(#,d))", 2222, "1", "2", "#0", "d");
        shape("(1,(2,(3,4)))", 1233, "1", "2", "3", "4");
        shape("(1,((2,3),4))", 1332, "1", "2", "3", "4");
        shape("((1,(2,3)),4)", 2331, "1", "2", "3", "4");
        shape("(((1,2),3),4)", 3321, "1", "2", "3", "4");
    }

    /** The same term as the state and as a message. */
    private static void shape(String term, int shape, String... leaves) {
        String[] calls = new String[15];
        calls[0] = "program 0 a:!#" + term + "~" + term + ";";
        calls[1] = "spawn 0 5 = 0";
        calls[2] = "mail 0 1 0 0";
        calls[3] = "step 0 = 0";
        calls[4] = "deliver 0 0 = 1";
        calls[5] = "shape 0 6 = " + shape;
        calls[6] = "shape 0 0 = " + shape;
        for (int k = 0; k < 4; k++) {
            String leaf = k < leaves.length ? leaves[k] : "NONE";
            calls[7 + k] = "leaf 0 6 " + k + " = " + leaf;
            calls[11 + k] = "leaf 0 0 " + k + " = " + leaf;
        }
        DUE.run(calls);
    }

    private static void about() {
        DUE.run("program 0 a:*1;b:@0A@1B;_:!#1!#2;", "spawn 0 5 = 0", "about 0 0 = ALIVE", "about 0 5 = 3",
                "mail 0 1 0 0", "about 0 1 = 1", "mail 0 1 1 0", "mail 0 1 2 0", "about 0 1 = 3", "step 0 = 0",
                "about 0 1 = 2", "about 0 2 = 1", "about 0 4 = 0", "step 0 = 1", "about 0 4 = 6", "about 1 4 = 1",
                "about 2 4 = 1", "about 1 2 = 0", "about 1 5 = 3", "about 2 5 = 0", "step 0 = 2", "about 0 6 = 2",
                "about 0 3 = NONE", "kill 1 = 1", "about 0 7 = 1", "about 1 0 = ENDED", "about 1 3 = h",
                "about 1 5 = NONE", "send 0 0 1 0 = 1", "about 0 12 = 1", "about 0 8 = 0", "kill 2 = 1",
                "about 0 8 = 1", "about 0 2 = 1", "kill 0 = 0", "about 0 2 = 0", "reap 0 = 4", "about 0 0 = FREE",
                "about 0 3 = NONE", "about 0 6 = 2", "about 0 7 = 1", "about 0 8 = 1", "about 0 12 = 1");
    }
}
