/** Promises 2 and 3: type and clear. */
public final class TextTest {
    private static final String SIXTY = "a:;b:;c:;d:;e:;f:;g:;h:;A:;B:;C:;D:;E:;S:;_:;1:;2:;3:;4:;5:;";

    public static void main(String[] args) {
        Due due = new Due("promises 2, 3");
        bytes(due);
        wrongBytes(due);
        length(due);
        checked(due);
        clear(due);
        due.close();
    }

    private static void bytes(Due due) {
        due.run("type 0 " + Due.pack("a:;") + " = 3", "check 0 = 1");
        // zero bytes in the middle and at the end are left out
        due.run("type 2 " + (0x6100003A00003B00L) + " = 3", "check 2 = 1");
        due.run("type 1 " + Due.pack("(a,b):;_") + " = 8", "fault 1 = 8", "type 1 " + Due.pack(":;") + " = 10",
                "check 1 = 2");
        due.run("type 1 0 = 0", "type 1 33 = 1", "type 1 126 = 2");
        due.run("type 3 97 ! IllegalArgumentException", "type -1 97 ! IllegalArgumentException");
    }

    private static void wrongBytes(Due due) {
        due.run("type 0 32 ! IllegalArgumentException", "type 0 127 ! IllegalArgumentException",
                "type 0 -1 ! IllegalArgumentException", "type 0 1 ! IllegalArgumentException",
                "type 0 " + Long.MIN_VALUE + " ! IllegalArgumentException",
                "type 0 " + (97L << 8 | 32) + " ! IllegalArgumentException",
                "type 0 " + (32L << 56 | 97) + " ! IllegalArgumentException",
                "spawn 0 0 = 0", "clear 0 = 0");
    }

    private static void length(Due due) {
        due.run("put 0 " + SIXTY, "type 0 0 = 60", "type 0 97 ! IllegalStateException",
                "type 0 32 ! IllegalArgumentException", "check 0 = 20", "clear 0 = 60");
        due.run("put 0 " + SIXTY.substring(0, 57), "type 0 " + Due.pack("a:~1") + " ! IllegalStateException",
                "type 0 0 = 57", "type 0 " + Due.pack("a:;") + " = 60", "check 0 = 20");
    }

    private static void checked(Due due) {
        due.run("type 0 0 = 0", "spawn 0 0 ! IllegalStateException", "check 0 = 0", "spawn 0 0 = 0");
        due.run("program 0 " + SIXTY, "type 0 97 ! IllegalStateException", "spawn 0 0 = 0",
                "type 0 32 ! IllegalArgumentException", "spawn 0 0 = 1",
                "type 0 0 = 60", "spawn 0 0 ! IllegalStateException", "spawn 1 0 = 2");
    }

    private static void clear(Due due) {
        due.run("put 0 abc", "put 1 a", "spawn 0 0 ! IllegalStateException", "clear 0 = 3", "spawn 0 0 = 0",
                "about 0 5 = 0", "clear 0 = 0", "clear 1 = 1", "clear 2 = 0");
        due.run("clear 3 ! IllegalArgumentException", "clear -1 ! IllegalArgumentException");
        // an actor keeps the text that it was made with
        due.run("program 0 1:;a:;", "spawn 0 0 = 0", "clear 0 = 6", "about 0 5 = 2", "mail 0 1 0 0", "step 0 = 1");
    }
}
