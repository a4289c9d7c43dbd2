import java.util.ArrayList;
import java.util.Arrays;
import java.util.List;

/**
 * "A call that throws changes nothing, but what is said": of two objects with the same calls behind them one
 * refuses a call; from then on both must answer alike, from whatever side they are looked at.
 */
public final class RefusalTest {
    private static final Due DUE = new Due("refusals");
    private static final String SIXTY = "a:;b:;c:;d:;e:;f:;g:;h:;A:;B:;C:;D:;E:;S:;_:;1:;2:;3:;4:;5:;";
    private static final String ILLEGAL_ARGUMENT = "IllegalArgumentException";
    private static final String ILLEGAL_STATE = "IllegalStateException";
    private static final String NOTHING = "NoSuchElementException";
    private static final String NOT_WHOLE = "UnsupportedOperationException";

    /** Actor 0 is TRAPPING and linked with 1 and 2; 3 is ENDED, 4 and 5 are FREE; much is under way. */
    private static final String[] BUSY = {"program 0 a:@1A@1B*1;(A,B):!AB!#B~(A,B);", "program 1 1:;2:~A;A?A=3:~5;",
        "put 2 a:~(1", "spawn 0 5 = 0", "mail 0 1 0 0", "step 0 = 0", "spawn 0 6 = 3", "kill 3 = 0", "mail 0 3 2 1",
        "step 0 = 1", "mail 0 0 8 0", "mail 0 2 9 4", "send 0 0 7 0 = 1", "send 1 0 3 0 = 1",
        "send 4 1 3 0 = 1", "send 3 1 3 0 = 1"};

    /** Six messages are in the MAILBOX of 0; one more and a SIGNAL of 1 are under way to it. */
    private static final String[] FULL = {"program 0 a:*1@1A;b:;", "spawn 0 5 = 0", "mail 0 1 0 0", "step 0 = 0",
        "kill 1 = 1", "mail 0 0 1 0", "mail 0 0 2 0", "mail 0 1 1 0", "mail 0 0 4 0", "mail 0 0 5 0", "mail 0 0 6 0",
        "send 0 0 7 0 = 1"};

    private static final String[] CROWD = {"program 0 a:~1;b:@0A;", "spawn 0 0 = 0", "spawn 0 1 = 1",
        "spawn 0 2 = 2", "spawn 0 3 = 3", "spawn 0 4 = 4", "spawn 0 5 = 5", "mail 3 1 0 0", "mail 5 1 1 0"};

    private static final List<List<String>> LOOKS = looks();

    public static void main(String[] args) {
        DUE.says("A call that throws changes nothing, but what is said.");
        texts();
        actors();
        ways();
        steps();
        views();
        DUE.close();
    }

    private static List<List<String>> looks() {
        List<List<String>> looks = new ArrayList<>();
        for (int actor = 0; actor < 6; actor++) {
            looks.add(viewsOf(actor));
            looks.add(stepsOf(actor));
            for (int from = 0; from <= 6; from++) {
                looks.add(wayOf(from, actor));
            }
        }
        for (int program = 0; program < 3; program++) {
            looks.add(List.of("fault " + program, "spawn " + program + " 1", "type " + program + " 0",
                    "spawn " + program + " 1", "check " + program, "spawn " + program + " 1", "clear " + program,
                    "about 0 5", "about 1 5", "about 2 5", "about 3 5", "about 4 5", "about 5 5"));
            looks.add(List.of("type " + program + " " + Due.pack(")"), "type " + program + " " + Due.pack(",2);"),
                    "fault " + program, "check " + program, "clear " + program));
        }
        return looks;
    }

    private static List<String> viewsOf(int actor) {
        List<String> look = new ArrayList<>();
        for (int what = 0; what <= 12; what++) {
            look.add("about " + actor + " " + what);
        }
        for (int i = 0; i <= 6; i++) {
            look.add("shape " + actor + " " + i);
            for (int k = 0; k <= 3; k++) {
                look.add("leaf " + actor + " " + i + " " + k);
            }
        }
        return look;
    }

    private static List<String> stepsOf(int actor) {
        List<String> look = new ArrayList<>();
        for (int i = 0; i < 3; i++) {
            look.add("step " + actor);
            look.addAll(viewsOf(actor));
        }
        look.addAll(List.of("kill " + actor, "reap " + actor, "spawn 0 1", "spawn 0 2"));
        return look;
    }

    /** All that is under way there, seen in the mailbox of one that is alive if one can be made. */
    private static List<String> wayOf(int from, int to) {
        List<String> look = new ArrayList<>(List.of("reap " + to, "spawn 1 1", "spawn 1 1", "spawn 1 1"));
        for (int i = 0; i < 8; i++) {
            look.addAll(List.of("deliver " + from + " " + to, "about " + to + " 0", "about " + to + " 1"));
            for (int message = 0; message < 6; message++) {
                look.addAll(List.of("shape " + to + " " + message, "leaf " + to + " " + message + " 0",
                        "leaf " + to + " " + message + " 1"));
            }
        }
        return look;
    }

    private static void refused(String[] before, String exception, String... calls) {
        DUE.run(before);
        for (String call : calls) {
            for (List<String> look : LOOKS) {
                List<String> without = new ArrayList<>(Arrays.asList(before));
                List<String> with = new ArrayList<>(without);
                with.add(call);
                without.addAll(look);
                with.addAll(look);
                List<String> got = new ArrayList<>(Arrays.asList(Due.answers(with.toArray(new String[0]))));
                String refusal = got.remove(before.length);
                DUE.isTrue(call + " throws " + exception + ", not " + refusal, refusal.equals(exception));
                List<String> due = Arrays.asList(Due.answers(without.toArray(new String[0])));
                DUE.isTrue("behind " + call + ": " + look + " answered " + got + ", due is " + due, got.equals(due));
            }
        }
    }

    private static String[] behind(String[] before, String... more) {
        String[] all = Arrays.copyOf(before, before.length + more.length);
        System.arraycopy(more, 0, all, before.length, more.length);
        return all;
    }

    private static void texts() {
        refused(BUSY, ILLEGAL_ARGUMENT, "type -1 97", "type 3 97", "type 0 32", "type 1 127", "type 2 -1",
                "type 2 " + (97L << 56 | 31), "type 1 " + (97L << 8 | 128), "clear -1", "clear 3", "check -1",
                "check 3",
                "fault -1", "fault 3");
        String[] full = {"program 0 " + SIXTY, "put 1 " + SIXTY, "spawn 0 1 = 0"};
        refused(full, ILLEGAL_STATE, "type 0 97", "type 1 97", "type 0 " + Due.pack("aaaaaaaa"));
        String[] nearlyFull = {"program 0 " + SIXTY.substring(0, 57), "spawn 0 1 = 0"};
        refused(nearlyFull, ILLEGAL_STATE, "type 0 " + Due.pack("a:~1"), "type 0 " + Due.pack("a:;b:;"));
        refused(BUSY, NOT_WHOLE, "check 2");
        refused(new String[] {"put 1 !"}, NOT_WHOLE, "check 1");
        refused(new String[] {"program 1 a:;", "spawn 1 1 = 0", "put 1 b:"}, NOT_WHOLE, "check 1");
    }

    private static void actors() {
        refused(BUSY, ILLEGAL_ARGUMENT, "spawn -1 0", "spawn 3 0", "spawn 0 1000", "spawn 0 -1000", "spawn 2 1000",
                "kill -1", "kill 6", "reap -1", "reap 6");
        refused(BUSY, ILLEGAL_STATE, "spawn 2 0", "kill 3", "kill 4", "reap 0", "reap 4");
        refused(CROWD, ILLEGAL_STATE, "spawn 0 7", "spawn 1 7", "reap 5");
        refused(behind(CROWD, "kill 3 = 0"), ILLEGAL_STATE, "spawn 0 7", "kill 3", "step 3");
    }

    private static void ways() {
        refused(BUSY, ILLEGAL_ARGUMENT, "send -1 0 0 0", "send 6 0 0 0", "send 0 -1 0 0", "send 0 4 0 0",
                "send 0 0 1000 0", "send 0 0 -1000 0", "send 0 1 8 0", "send 0 1 -1 0", "send 1 2 1000 0",
                "send 1 2 0 8", "send 1 2 0 -1", "send 1 3 -1000 0", "send 1 3 0 6", "send 1 3 0 -1", "deliver -1 0",
                "deliver 7 0", "deliver 0 -1", "deliver 0 6");
        refused(behind(BUSY, "send 0 0 1 0 = 2", "send 0 0 2 0 = 3", "send 0 0 3 0 = 4"), ILLEGAL_STATE, "send 0 0 1 0",
                "send 0 1 1 0", "send 0 2 1 1", "send 0 3 1 1");
        refused(BUSY, NOTHING, "deliver 1 0", "deliver 6 5", "deliver 3 4", "deliver 2 2");
        // a message, and a SIGNAL to one that is TRAPPING
        refused(FULL, ILLEGAL_STATE, "deliver 6 0", "deliver 1 0");
    }

    private static void steps() {
        refused(BUSY, ILLEGAL_ARGUMENT, "step -1", "step 6");
        refused(BUSY, ILLEGAL_STATE, "step 3", "step 4", "step 5");
        refused(BUSY, NOTHING, "step 1", "step 2");
        // messages that get far: variables have values, guards have troubles
        String[] far = {"program 0 (A,B)?A=1:~B@1C;(A,9):!AA;A?/10=1:$A;_?C=C:*1;", "spawn 0 5 = 0", "mail 0 3 8 1",
            "mail 0 2 8 1", "mail 0 0 3 0"};
        refused(far, NOTHING, "step 0");
    }

    private static void views() {
        refused(BUSY, ILLEGAL_ARGUMENT, "leaf -1 0 0", "leaf 6 0 0", "leaf 0 -1 0", "leaf 0 7 0", "leaf 0 0 -1",
                "leaf 0 0 4", "shape -1 0", "shape 6 0", "shape 0 -1", "shape 0 7", "about -1 0", "about 6 0",
                "about 0 -1", "about 0 13");
    }
}
