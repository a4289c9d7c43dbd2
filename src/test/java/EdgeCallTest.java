import java.util.ArrayList;
import java.util.List;

/** The sentences on numbers out of range, on actors and on looking at them that name an edge; promises 6, 12 to 14. */
public final class EdgeCallTest {
    private static final Due DUE = new Due("edges of calls");
    private static final String ILLEGAL_ARGUMENT = " ! IllegalArgumentException";
    private static final String ILLEGAL_STATE = " ! IllegalStateException";
    private static final String SIXTY = "a:;b:;c:;d:;e:;f:;g:;h:;A:;B:;C:;D:;E:;S:;_:;1:;2:;3:;4:;5:;";

    public static void main(String[] args) {
        calls();
        constants();
        actors();
        ranges();
        rangesFirst();
        spawn();
        leaf();
        shape();
        about();
        DUE.close();
    }

    /** Rounds in which all is used again, up to the last call that counts. */
    private static void calls() {
        DUE.says("An object is used for at most 512 calls after it has been made; what later calls answer is free.");
        List<String> calls = new ArrayList<>(List.of("type 0 " + Due.pack("a:@1A@1B") + " = 8",
                "type 0 " + Due.pack("@1C;") + " = 12", "check 0 = 1"));
        String[] round = {"spawn 0 5 = 0", "send 0 1 0 0 = 1", "deliver 6 0 = 1", "step 0 = 0", "about 0 4 = 14",
            "kill 0 = 3", "deliver 0 1 = 4", "deliver 0 2 = 4", "deliver 0 3 = 4", "about 3 3 = h", "reap 3 = 3",
            "reap 1 = 4", "reap 2 = 5", "reap 0 = 6"};
        while (calls.size() < 512) {
            calls.add(round[(calls.size() - 3) % round.length]);
        }
        DUE.run(calls.toArray(new String[0]));
    }

    private static void constants() {
        DUE.says("`NONE = -5000`: No such thing.");
        DUE.isTrue("NONE is -5000", ActorMachine.NONE == -5000);
        DUE.isTrue("FREE is 0, ALIVE 1 and ENDED 2",
                ActorMachine.FREE == 0 && ActorMachine.ALIVE == 1 && ActorMachine.ENDED == 2);
        DUE.run("leaf 0 0 0 = -5000", "shape 0 0 = -5000", "about 0 3 = -5000", "about 0 5 = -5000");
    }

    private static void actors() {
        DUE.says("ACTORS 0 .. 5 are FREE (at first), ALIVE or ENDED.");
        for (int i = 0; i <= 5; i++) {
            DUE.run("about " + i + " 0 = 0", "spawn 0 0 = 0", "spawn 0 0 = 1", "spawn 0 0 = 2", "spawn 0 0 = 3",
                    "spawn 0 0 = 4", "spawn 0 0 = 5", "about " + i + " 0 = 1", "kill " + i + " = 0",
                    "about " + i + " 0 = 2", "reap " + i + " = 1", "about " + i + " 0 = 0");
        }
        DUE.says("One that is ALIVE has a program's text as it was when it was made, a STATE (a TERM)");
        DUE.run("program 0 a:~1;b:;", "spawn 0 -7 = 0", "put 0 c", "mail 0 1 0 0", "clear 0 = 9", "about 0 5 = 2",
                "leaf 0 6 0 = -7", "step 0 = 0", "leaf 0 6 0 = 1", "program 0 a:~2;", "mail 0 1 0 0", "step 0 = 0",
                "leaf 0 6 0 = 1", "kill 0 = 0", "leaf 0 6 0 = NONE", "about 0 5 = NONE");
        DUE.says("and may be TRAPPING (at first not)");
        DUE.run("program 0 a:*1@0A;", "spawn 0 0 = 0", "about 0 2 = 0", "mail 0 1 0 0", "step 0 = 0", "about 0 2 = 1",
                "about 1 2 = 0", "kill 0 = 1", "about 0 2 = 0", "reap 0 = 5", "about 0 2 = 0", "spawn 0 0 = 0",
                "about 0 2 = 0");
    }

    /** The call with each number of it in its place too small and too large: "about 0..5 0..12". */
    private static void range(String call) {
        String[] words = call.split(" ");
        for (int place = 1; place < words.length; place++) {
            String[] ends = words[place].split("\\.\\.");
            if (ends.length < 2) {
                continue;
            }
            long least = Long.parseLong(ends[0]);
            long most = Long.parseLong(ends[1]);
            for (long wrong : new long[] {least - 1, most + 1, least - 100, most + 100, Integer.MIN_VALUE,
                Integer.MAX_VALUE, most + 256, most + 65536}) {
                DUE.run(withNumbers(words, place, wrong) + ILLEGAL_ARGUMENT);
            }
            for (long right : new long[] {least, most}) {
                String answer = Due.answers(withNumbers(words, place, right))[0];
                DUE.isTrue(right + " in place " + place + " of " + call, !answer.equals("IllegalArgumentException"));
            }
        }
    }

    private static String withNumbers(String[] words, int changed, long number) {
        StringBuilder call = new StringBuilder(words[0]);
        for (int place = 1; place < words.length; place++) {
            String least = words[place].split("\\.\\.")[0];
            call.append(' ').append(place == changed ? Long.toString(number) : least);
        }
        return call.toString();
    }

    private static void ranges() {
        DUE.says("Actors 0 .. 5 where nothing else is said.");
        range("send 0..5 0 0 0");
        range("deliver 0 0..5");
        range("step 0..5");
        range("kill 0..5");
        range("reap 0..5");
        range("leaf 0..5 0 0");
        range("shape 0..5 0");
        range("about 0..5 0");
        DUE.says("program 0 .. 2, state -999 .. 999.");
        range("type 0..2 97");
        range("clear 0..2");
        range("check 0..2");
        range("fault 0..2");
        range("spawn 0..2 0");
        range("spawn 0 -999..999");
        DUE.says("Leaf k, 0 .. 3, of message i, 0 .. 5, of the MAILBOX, or of the STATE for i 6");
        range("leaf 0 0..6 0");
        range("leaf 0 0 0..3");
        range("shape 0 0..6");
        DUE.says("6 + f, f 0 .. 6: how many things are UNDER WAY from f to it. Else IllegalArgumentException.");
        range("about 0 0..12");
        range("send 0 0..3 0 0");
        range("send 0 0 -999..999 0");
        range("send 0 1 0..7 0");
        range("send 0 2 -999..999 0");
        range("send 0 2 0 0..7");
        range("send 0 3 -999..999 0");
        range("send 0 3 0 0..5");
        range("deliver 0..6 0");
    }

    private static void rangesFirst() {
        DUE.says("Every call throws IllegalArgumentException first for numbers out of range.");
        DUE.run("put 0 " + SIXTY, "type 0 97" + ILLEGAL_STATE, "type 0 127" + ILLEGAL_ARGUMENT,
                "type 0 " + (97L << 8 | 31) + ILLEGAL_ARGUMENT, "type 0 -1" + ILLEGAL_ARGUMENT,
                "type 3 127" + ILLEGAL_ARGUMENT);
        DUE.run("put 0 " + SIXTY.substring(0, 59), "type 0 " + (97L << 56 | 97L << 48 | 32) + ILLEGAL_ARGUMENT,
                "type 0 " + (97L << 56 | 97L << 48) + ILLEGAL_STATE);
        DUE.run("put 0 a", "spawn 0 0" + ILLEGAL_STATE, "spawn 0 1000" + ILLEGAL_ARGUMENT,
                "spawn 0 -1000" + ILLEGAL_ARGUMENT);
        DUE.run("spawn 0 0 = 0", "spawn 0 0 = 1", "spawn 0 0 = 2", "spawn 0 0 = 3", "spawn 0 0 = 4", "spawn 0 0 = 5",
                "spawn 0 0" + ILLEGAL_STATE, "spawn 0 1000" + ILLEGAL_ARGUMENT, "spawn 3 0" + ILLEGAL_ARGUMENT);
        DUE.run("send 0 0 1 0 = 1", "send 0 0 1 0 = 2", "send 0 0 1 0 = 3", "send 0 0 1 0 = 4",
                "send 0 0 1 0" + ILLEGAL_STATE, "send 0 0 1000 0" + ILLEGAL_ARGUMENT, "send 0 4 1 0" + ILLEGAL_ARGUMENT,
                "send 0 1 8 0" + ILLEGAL_ARGUMENT, "send 0 2 1 8" + ILLEGAL_ARGUMENT, "send 0 3 1 6" + ILLEGAL_ARGUMENT,
                "send 0 2 1000 0" + ILLEGAL_ARGUMENT, "send 0 3 -1000 0" + ILLEGAL_ARGUMENT);
        DUE.run("deliver 0 6" + ILLEGAL_ARGUMENT, "deliver 7 0" + ILLEGAL_ARGUMENT, "deliver 7 6" + ILLEGAL_ARGUMENT,
                "deliver 0 0 ! NoSuchElementException");
        // there is no STATE, no message and no actor, and still the range is looked at
        DUE.run("leaf 0 7 0" + ILLEGAL_ARGUMENT, "leaf 0 0 4" + ILLEGAL_ARGUMENT, "leaf 0 6 -1" + ILLEGAL_ARGUMENT,
                "shape 0 7" + ILLEGAL_ARGUMENT, "about 0 13" + ILLEGAL_ARGUMENT);
    }

    private static void spawn() {
        DUE.says("It is not CHECKED, or no ACTOR is FREE: IllegalStateException.");
        for (int program = 0; program <= 2; program++) {
            DUE.run("put " + program + " a:;", "spawn " + program + " 0" + ILLEGAL_STATE, "about 0 0 = FREE",
                    "check " + program + " = 1", "spawn " + program + " 0 = 0");
            DUE.run("put " + program + " a:", "spawn " + program + " 0" + ILLEGAL_STATE);
        }
        DUE.run("spawn 0 0 = 0", "spawn 1 0 = 1", "spawn 2 0 = 2", "spawn 0 0 = 3", "spawn 1 0 = 4", "spawn 2 0 = 5",
                "spawn 0 0" + ILLEGAL_STATE, "kill 2 = 0", "spawn 0 0" + ILLEGAL_STATE, "reap 2 = 1", "spawn 0 0 = 2",
                "spawn 0 0" + ILLEGAL_STATE);
        DUE.says("An ACTOR is made, ALIVE, under the least number that is FREE. Answers it.");
        DUE.run("spawn 0 -999 = 0", "about 0 0 = ALIVE", "leaf 0 6 0 = -999", "spawn 0 999 = 1", "leaf 1 6 0 = 999",
                "spawn 0 0 = 2", "spawn 0 0 = 3", "kill 0 = 0", "kill 2 = 0", "spawn 0 0 = 4", "reap 2 = 2",
                "spawn 0 5 = 2", "leaf 2 6 0 = 5", "reap 0 = 2", "spawn 0 6 = 0", "leaf 0 6 0 = 6", "spawn 0 0 = 5");
    }

    private static void leaf() {
        DUE.says("an int itself, an atom 2000 plus its number, an actor 3000 plus its number; there is none: NONE.");
        for (int x : new int[] {-999, -1, 0, 1, 999}) {
            DUE.run("spawn 0 " + x + " = 0", "mail 0 0 " + x + " 0", "leaf 0 0 0 = " + x, "leaf 0 6 0 = " + x,
                    "leaf 0 0 1 = -5000", "leaf 0 6 1 = -5000");
        }
        for (int x = 0; x <= 7; x++) {
            DUE.run("spawn 0 0 = 0", "mail 0 1 " + x + " 0", "leaf 0 0 0 = " + (2000 + x));
        }
        for (int y = 0; y <= 5; y++) {
            DUE.run("spawn 0 0 = 0", "mail 0 3 0 " + y, "leaf 0 0 0 = " + (3000 + y));
        }
        for (int i = 0; i <= 6; i++) {
            for (int k = 0; k <= 3; k++) {
                String none = "leaf 0 " + i + " " + k + " = NONE";
                // FREE; ALIVE with one message of one leaf; ENDED
                DUE.run(none, "spawn 0 7 = 0", "mail 0 0 7 0",
                        (i == 0 || i == 6) && k == 0 ? "leaf 0 " + i + " 0 = 7" : none, "kill 0 = 0", none,
                                "reap 0 = 6",
                        none);
            }
        }
        // a message taken out is there no more, nor are its leaves behind shorter ones
        DUE.run("program 0 (_,_):;", "spawn 0 0 = 0", "mail 0 2 5 0", "mail 0 0 1 0", "leaf 0 0 1 = 5", "step 0 = 0",
                "leaf 0 0 0 = 1", "leaf 0 0 1 = NONE", "leaf 0 1 0 = NONE");
    }

    private static void shape() {
        DUE.says("its LEAVES' depths, the number of pairs around each, from the left as decimal digits (a pair of two "
                + "leaves is 11, a leaf alone 0); NONE if there is none.");
        String[] terms = {"7", "(1,2)", "(1,(2,3))", "((1,2),3)", "((1,2),(3,4))", "(1,(2,(3,4)))", "(1,((2,3),4))",
            "((1,(2,3)),4)", "(((1,2),3),4)"};
        int[] shapes = {0, 11, 122, 221, 2222, 1233, 1332, 2331, 3321};
        for (int i = 0; i < terms.length; i++) {
            DUE.run("program 0 a:!#" + terms[i] + "~" + terms[i] + ";", "spawn 0 0 = 0", "mail 0 1 0 0", "step 0 = 0",
                    "deliver 0 0 = 1", "shape 0 0 = " + shapes[i], "shape 0 6 = " + shapes[i], "shape 0 1 = NONE");
        }
        for (int i = 0; i <= 6; i++) {
            String none = "shape 0 " + i + " = NONE";
            DUE.run(none, "spawn 0 7 = 0", "mail 0 0 7 0", i == 0 || i == 6 ? "shape 0 " + i + " = 0" : none,
                    "kill 0 = 0", none, "reap 0 = 6", none);
        }
        DUE.run("spawn 0 0 = 0", "mail 0 0 0 0", "mail 0 1 0 0", "mail 0 2 0 0", "mail 0 3 0 0", "shape 0 0 = 0",
                "shape 0 1 = 0", "shape 0 2 = 11", "shape 0 3 = 11", "shape 0 4 = NONE");
    }

    private static void about() {
        DUE.says("0 FREE, ALIVE, ENDED");
        DUE.run("about 5 0 = 0", "spawn 0 0 = 0", "about 0 0 = 1", "about 1 0 = 0", "kill 0 = 0", "about 0 0 = 2",
                "reap 0 = 6", "about 0 0 = 0");
        DUE.says("1 messages in the MAILBOX");
        DUE.run("about 0 1 = 0", "spawn 0 0 = 0", "about 0 1 = 0", "mail 0 0 1 0", "about 0 1 = 1", "mail 0 0 1 0",
                "mail 0 0 1 0", "mail 0 0 1 0", "mail 0 0 1 0", "mail 0 0 1 0", "about 0 1 = 6", "kill 0 = 0",
                "about 0 1 = 0");
        DUE.says("2: 1 if TRAPPING, else 0");
        DUE.run("about 0 2 = 0", "program 0 a:*1;b:*0;", "spawn 0 0 = 0", "about 0 2 = 0", "mail 0 1 0 0", "step 0 = 0",
                "about 0 2 = 1", "mail 0 1 1 0", "step 0 = 1", "about 0 2 = 0");
        DUE.says("3 the REASON of one ENDED, as in leaf, NONE else");
        DUE.run("about 0 3 = NONE", "program 0 A:$A;", "spawn 0 0 = 0", "about 0 3 = NONE", "mail 0 0 -999 0",
                "step 0 = 0",
                "about 0 3 = -999", "reap 0 = 6", "about 0 3 = NONE", "spawn 0 0 = 0", "about 0 3 = NONE",
                "mail 0 1 7 0", "step 0 = 0", "about 0 3 = 2007", "reap 0 = 6", "spawn 0 0 = 0", "mail 0 3 0 5",
                "step 0 = 0", "about 0 3 = 3005");
        DUE.says("4 those linked with it as a sum of 2 to their numbers");
        DUE.run("about 0 4 = 0", "program 0 a:@1A@1A@1A@1A@1A;", "spawn 0 0 = 0", "about 0 4 = 0", "mail 0 1 0 0",
                "step 0 = 0", "about 0 4 = 62", "about 1 4 = 1", "about 5 4 = 1", "kill 3 = 1", "about 0 4 = 54",
                "about 3 4 = 0", "kill 0 = 4", "about 0 4 = 0", "about 5 4 = 0");
        DUE.run("program 0 (A,B):&A;", "spawn 1 0 = 0", "spawn 1 0 = 1", "spawn 1 0 = 2", "spawn 1 0 = 3",
                "spawn 1 0 = 4",
                "spawn 0 0 = 5", "mail 5 3 0 0", "step 5 = 0", "about 5 4 = 1", "about 0 4 = 32", "mail 5 3 0 4",
                "step 5 = 0", "about 5 4 = 17", "about 4 4 = 32");
        DUE.says("5 its program's clauses, NONE if it is not ALIVE");
        DUE.run("about 0 5 = NONE", "spawn 0 0 = 0", "about 0 5 = 0", "program 0 " + SIXTY, "about 0 5 = 0",
                "spawn 0 0 = 1",
                "about 1 5 = 20", "kill 1 = 0", "about 1 5 = NONE", "reap 1 = 5", "about 1 5 = NONE");
        DUE.says("6 + f, f 0 .. 6: how many things are UNDER WAY from f to it.");
        for (int from = 0; from <= 5; from++) {
            int to = (from + 1) % 6;
            int what = 6 + from;
            DUE.run("program 0 (A,B):!A1!A2!A3!A4&A$c;", "spawn 0 0 = 0", "spawn 0 0 = 1", "spawn 0 0 = 2",
                    "spawn 0 0 = 3",
                    "spawn 0 0 = 4", "spawn 0 0 = 5", "about " + to + " " + what + " = 0",
                    "mail " + from + " 3 0 " + to,
                    "step " + from + " = 0", "about " + to + " " + what + " = 5", "about " + from + " " + what + " = 0",
                    "about " + from + " " + (6 + to) + " = 0", "about " + to + " 12 = 0");
        }
        DUE.run("send 5 0 1 0 = 1", "about 5 12 = 1", "about 5 11 = 0", "send 5 0 1 0 = 2", "about 5 12 = 2");
    }
}
