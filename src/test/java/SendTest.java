/** Promise 7. */
public final class SendTest {
    public static void main(String[] args) {
        Due due = new Due("promise 7");
        due.run("spawn 0 0 = 0", "send 0 0 -999 12345 = 1", "send 0 1 7 -12345 = 2", "send 0 2 999 7 = 3",
                "send 0 3 -5 5 = 4", "send 0 0 1 0 ! IllegalStateException", "about 0 12 = 4", "about 0 6 = 0",
                "deliver 6 0 = 1", "deliver 6 0 = 1", "deliver 6 0 = 1", "deliver 6 0 = 1", "about 0 12 = 0",
                "leaf 0 0 0 = -999", "leaf 0 0 1 = NONE", "shape 0 0 = 0", "leaf 0 1 0 = h", "shape 0 1 = 0",
                "leaf 0 2 0 = h", "leaf 0 2 1 = 999", "shape 0 2 = 11", "leaf 0 3 0 = #5", "leaf 0 3 1 = -5",
                "leaf 0 3 2 = NONE", "shape 0 3 = 11");
        // to a free actor too; the ways to others are their own
        due.run("send 5 1 0 0 = 1", "send 5 1 0 0 = 2", "send 4 1 0 0 = 1", "about 5 12 = 2", "about 4 12 = 1");
        String[] wrong = {"-1 0 0 0", "6 0 0 0", "0 -1 0 0", "0 4 0 0", "0 0 1000 0", "0 0 -1000 0", "0 1 8 0",
            "0 1 -1 0", "0 2 1000 0", "0 2 -1000 0", "0 2 0 8", "0 2 0 -1", "0 3 1000 0", "0 3 -1000 0", "0 3 0 6",
            "0 3 0 -1"};
        for (String numbers : wrong) {
            due.run("send " + numbers + " ! IllegalArgumentException", "about 0 12 = 0", "send 0 0 1 1 = 1",
                    "send 0 0 1 1 = 2", "send 0 0 1 1 = 3", "send 0 0 1 1 = 4",
                    "send " + numbers + " ! IllegalArgumentException");
        }
        due.close();
    }
}
