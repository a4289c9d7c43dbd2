import java.util.ArrayList;
import java.util.List;

/** The sentences on what is UNDER WAY and on ENDING that name an edge, and promises 7, 8, 10 and 11. */
public final class EdgeWayTest {
    private static final Due DUE = new Due("edges of ways");
    private static final String ILLEGAL_ARGUMENT = " ! IllegalArgumentException";
    private static final String ILLEGAL_STATE = " ! IllegalStateException";
    private static final String NOTHING = " ! NoSuchElementException";

    public static void main(String[] args) {
        ways();
        mailbox();
        ending();
        crowdedWays();
        send();
        deliver();
        signals();
        kill();
        reap();
        DUE.close();
    }

    private static void ways() {
        DUE.says("for each two ACTORS, from and to (they may be the same; from may also be 6, the outside), a list of "
                + "at most 4 things");
        // 36 ways between actors: each sends its number to each
        for (int from = 0; from < 6; from++) {
            List<String> calls = new ArrayList<>(List.of("program 0 (A,B):!AB;"));
            for (int i = 0; i < 6; i++) {
                calls.add("spawn 0 0 = " + i);
            }
            for (int to = 0; to < 6; to++) {
                calls.add("mail " + from + " 3 " + (10 * from + to) + " " + to);
                calls.add("step " + from + " = 0");
            }
            for (int to = 0; to < 6; to++) {
                for (int way = 0; way <= 6; way++) {
                    calls.add("about " + to + " " + (6 + way) + " = " + (way == from ? 1 : 0));
                }
                calls.add("deliver " + from + " " + to + " = 1");
                calls.add("leaf " + to + " 0 0 = " + (10 * from + to));
                calls.add("deliver " + from + " " + to + NOTHING);
            }
            DUE.run(calls.toArray(new String[0]));
        }
        DUE.run("send 3 0 1 0 = 1", "send 3 0 2 0 = 2", "send 3 0 3 0 = 3", "send 3 0 4 0 = 4",
                "send 3 0 5 0" + ILLEGAL_STATE, "about 3 12 = 4", "send 2 0 1 0 = 1", "about 2 12 = 1");
    }

    private static void mailbox() {
        DUE.says("a MAILBOX of at most 6 messages in order");
        DUE.run("spawn 0 0 = 0", "mail 0 0 1 0", "mail 0 0 2 0", "mail 0 0 3 0", "mail 0 0 4 0", "mail 0 0 5 0",
                "about 0 1 = 5", "mail 0 0 6 0", "about 0 1 = 6", "send 0 0 7 0 = 1", "deliver 6 0" + ILLEGAL_STATE,
                "about 0 1 = 6", "leaf 0 0 0 = 1", "leaf 0 1 0 = 2", "leaf 0 2 0 = 3", "leaf 0 3 0 = 4",
                "leaf 0 4 0 = 5", "leaf 0 5 0 = 6");
    }

    private static void ending() {
        DUE.says("the actor is ENDED, its MAILBOX is empty");
        // by kill, by '$', by a FAULT, by a DIVISION, by a SIGNAL
        String[] ends = {"kill 0 = 1", "step 0 = 101", "step 0 ! UnsupportedOperationException",
            "step 0 ! ArithmeticException", "deliver 1 0 = 4"};
        String[] clauses = {"b:;", "b:$c;", "b:~C;", "b:~/10;", "b:;"};
        String[] reasons = {"h", "c", "f", "d", "h"};
        for (int i = 0; i < 5; i++) {
            boolean bySignal = i == 4;
            DUE.run("program 0 a:@1A;" + clauses[i], "spawn 0 8 = 0", "mail 0 1 0 0", "step 0 = 0", "mail 0 0 1 0",
                    "mail 0 1 1 0", "mail 0 0 2 0", "about 0 1 = 3", bySignal ? "kill 1 = 1" : "about 0 4 = 2", ends[i],
                    "about 0 0 = ENDED", "about 0 1 = 0", "leaf 0 0 0 = NONE", "leaf 0 2 0 = NONE", "shape 0 0 = NONE",
                    "about 0 3 = " + reasons[i], "about 0 4 = 0", "about 1 4 = 0", "about 1 6 = " + (bySignal ? 0 : 1),
                    bySignal ? "deliver 0 1" + NOTHING : "deliver 0 1 = 4", "about 1 3 = " + reasons[i]);
        }
        DUE.says("for each ACTOR linked with it, by rising numbers, a SIGNAL with the REASON is put UNDER WAY from it");
        DUE.run("program 0 a:@1A@1A@1A@1A@1A;", "spawn 0 8 = 0", "kill 0 = 0", "reap 0 = 6", "spawn 0 8 = 0",
                "mail 0 1 0 0", "step 0 = 0", "kill 0 = 5", "about 0 6 = 0", "about 1 6 = 1", "about 2 6 = 1",
                "about 3 6 = 1", "about 4 6 = 1", "about 5 6 = 1", "about 1 7 = 0", "about 0 7 = 0", "about 5 4 = 0");
        DUE.run("spawn 0 0 = 0", "spawn 0 0 = 1", "kill 0 = 0", "about 1 6 = 0", "about 0 6 = 0");
    }

    /** Behind four messages five more actors of number 1 end, each linked with 0. */
    private static void crowdedWays() {
        DUE.says("(also if four are there; if eight are, it is lost), and the link is no more.");
        List<String> calls = new ArrayList<>(List.of("program 0 (A,1):!A1!A2!A3!A4;(A,B):&A;", "spawn 1 0 = 0",
                "spawn 0 0 = 1", "mail 1 3 1 0", "step 1 = 0", "about 0 7 = 4"));
        for (int due : new int[] {5, 6, 7, 8, 8, 8}) {
            calls.addAll(List.of("mail 1 3 0 0", "step 1 = 1", "about 0 4 = 2", "about 1 4 = 1", "kill 1 = 1",
                    "about 0 7 = " + due, "about 0 4 = 0", "about 1 4 = 0", "reap 1 = 5", "spawn 0 0 = 1"));
        }
        // what was there before the ninth is what is there
        calls.addAll(List.of("deliver 1 0 = 1", "leaf 0 0 0 = 1", "deliver 1 0 = 1", "deliver 1 0 = 1",
                "deliver 1 0 = 1", "leaf 0 3 0 = 4", "about 0 7 = 4", "deliver 1 0 = 4", "about 0 3 = h",
                "deliver 1 0 = 0", "deliver 1 0 = 0", "deliver 1 0 = 0", "deliver 1 0" + NOTHING));
        DUE.run(calls.toArray(new String[0]));
        // a SIGNAL makes the list longer than four: '!' finds four there till all but three are gone
        DUE.run("program 0 (A,1):!A1!A2!A3!A4&A$a;(A,B):!AB;", "spawn 1 0 = 0", "spawn 0 0 = 1", "mail 1 3 1 0",
                "step 1 = 0", "about 0 7 = 5", "reap 1 = 5", "deliver 1 0 = 1", "about 0 7 = 4", "spawn 0 0 = 1",
                "mail 1 3 9 0", "step 1 ! UnsupportedOperationException", "reap 1 = 5", "spawn 0 0 = 1",
                "deliver 1 0 = 1",
                "mail 1 3 9 0", "step 1 = 1", "about 0 7 = 4", "deliver 1 0 = 1", "deliver 1 0 = 1", "deliver 1 0 = 3",
                "deliver 1 0 = 1", "leaf 0 4 0 = 9");
    }

    private static void send() {
        DUE.says("to 0 .. 5, kind 0 .. 3: a message is put UNDER WAY from the outside: 0 the int x; 1 the atom with "
                + "number x (0 a .. 7 h); 2 the pair of atom y and int x; 3 the pair of actor y and int x.");
        for (int to = 0; to <= 5; to++) {
            DUE.run("send " + to + " 0 1 0 = 1", "about " + to + " 12 = 1");
        }
        for (int x = 0; x <= 7; x++) {
            String atom = Character.toString((char) ('a' + x));
            DUE.run("spawn 0 0 = 0", "mail 0 1 " + x + " 0", "leaf 0 0 0 = " + atom, "shape 0 0 = 0",
                    "mail 0 2 -999 " + x,
                    "leaf 0 1 0 = " + atom, "leaf 0 1 1 = -999", "leaf 0 1 2 = NONE", "shape 0 1 = 11");
        }
        for (int y = 0; y <= 5; y++) {
            DUE.run("spawn 0 0 = 0", "mail 0 3 999 " + y, "leaf 0 0 0 = #" + y, "leaf 0 0 1 = 999", "leaf 0 0 2 = NONE",
                    "shape 0 0 = 11");
        }
        DUE.run("spawn 0 0 = 0", "mail 0 0 -999 0", "mail 0 0 999 0", "leaf 0 0 0 = -999", "leaf 0 1 0 = 999",
                "shape 0 0 = 0", "leaf 0 0 1 = NONE");
        DUE.says("x and y must be in their ranges (y any for 0 and 1).");
        for (int kind = 0; kind <= 3; kind++) {
            int[] wrongX = kind == 1 ? new int[] {-1, 8, 999, -999} : new int[] {-1000, 1000, 2000, 3000};
            for (int x : wrongX) {
                DUE.run("send 0 " + kind + " " + x + " 0" + ILLEGAL_ARGUMENT, "about 0 12 = 0");
            }
            DUE.run("send 0 " + kind + " " + Integer.MIN_VALUE + " 0" + ILLEGAL_ARGUMENT);
            DUE.run("send 0 " + kind + " " + Integer.MAX_VALUE + " 0" + ILLEGAL_ARGUMENT);
            int tooLarge = kind == 2 ? 8 : 6;
            for (int y : new int[] {-1, tooLarge, 1000, Integer.MIN_VALUE, Integer.MAX_VALUE}) {
                DUE.run("send 0 " + kind + " 1 " + y + (kind < 2 ? " = 1" : ILLEGAL_ARGUMENT),
                        "about 0 12 = " + (kind < 2 ? 1 : 0));
            }
            DUE.run("send 0 " + kind + " 1 " + (tooLarge - 1) + " = 1");
        }
        DUE.says("Four are there: IllegalStateException. Answers how many are there.");
        DUE.run("send 0 0 1 0 = 1", "send 0 1 1 0 = 2", "send 0 2 1 0 = 3", "send 0 3 1 0 = 4",
                "send 0 0 1 0" + ILLEGAL_STATE, "send 0 1 1 0" + ILLEGAL_STATE, "send 0 2 1 0" + ILLEGAL_STATE,
                "send 0 3 1 0" + ILLEGAL_STATE, "about 0 12 = 4", "deliver 6 0 = 0", "send 0 0 1 0 = 4",
                "send 0 0 1 0" + ILLEGAL_STATE);
    }

    private static void deliver() {
        DUE.says("from 0 .. 6: the oldest thing UNDER WAY from there is taken; there is none: NoSuchElementException.");
        for (int from = 0; from <= 6; from++) {
            for (int to = 0; to <= 5; to++) {
                DUE.run("deliver " + from + " " + to + NOTHING);
            }
        }
        DUE.run("spawn 0 0 = 0", "send 0 0 1 0 = 1", "send 0 0 2 0 = 2", "deliver 0 0" + NOTHING,
                "deliver 6 1" + NOTHING,
                "deliver 6 0 = 1", "leaf 0 0 0 = 1", "about 0 12 = 1", "deliver 6 0 = 1", "leaf 0 1 0 = 2",
                "about 0 12 = 0", "deliver 6 0" + NOTHING, "about 0 1 = 2");
        DUE.says("The receiver is not ALIVE: it is lost; 0.");
        DUE.run("send 0 0 1 0 = 1", "deliver 6 0 = 0", "about 0 12 = 0", "about 0 1 = 0", "spawn 0 0 = 0",
                "about 0 1 = 0",
                "send 0 0 1 0 = 1", "kill 0 = 0", "deliver 6 0 = 0", "about 0 12 = 0", "about 0 1 = 0");
        // a SIGNAL too, to an ENDED one and to a FREE one
        DUE.run("program 0 a:@1A;", "spawn 0 0 = 0", "mail 0 1 0 0", "step 0 = 0", "kill 0 = 1", "kill 1 = 0",
                "deliver 0 1 = 0", "about 1 3 = h", "about 1 6 = 0");
        DUE.run("program 0 a:@1A;", "spawn 0 0 = 0", "mail 0 1 0 0", "step 0 = 0", "kill 0 = 1", "kill 1 = 0",
                "reap 1 = 5", "deliver 0 1 = 0", "about 1 0 = FREE", "about 1 6 = 0", "spawn 1 0 = 1", "about 1 1 = 0");
        DUE.says("A message: its MAILBOX has six: IllegalStateException (it is not taken); else it is the newest "
                + "there; 1.");
        DUE.run("program 0 3:;", "spawn 0 0 = 0", "mail 0 0 1 0", "mail 0 0 2 0", "mail 0 0 3 0", "mail 0 0 4 0",
                "mail 0 0 5 0", "send 0 0 6 0 = 1", "send 0 0 7 0 = 2", "deliver 6 0 = 1", "leaf 0 5 0 = 6",
                "deliver 6 0" + ILLEGAL_STATE, "about 0 12 = 1", "about 0 1 = 6", "deliver 6 0" + ILLEGAL_STATE,
                "step 0 = 200", "deliver 6 0 = 1", "leaf 0 5 0 = 7", "leaf 0 4 0 = 6", "about 0 12 = 0",
                "deliver 6 0" + NOTHING);
    }

    /** Actor 0, TRAPPING or not, has made actor 1, which ends with the reason. */
    private static String[] linked(boolean trapping, String reason, String... more) {
        List<String> calls = new ArrayList<>(List.of("program 1 _:$" + reason + ";",
                "program 0 a:@1A" + (trapping ? "*1" : "") + ";b:*0;", "spawn 0 8 = 0", "mail 0 1 0 0", "step 0 = 0",
                "mail 1 0 0 0", "step 1 = 0"));
        calls.addAll(List.of(more));
        return calls.toArray(new String[0]);
    }

    private static void signals() {
        DUE.says("A SIGNAL, TRAPPING: the message (g,(from,REASON)) is put there likewise; 2.");
        String[][] reasons = {{"a", "a"}, {"h", "h"}, {"0", "0"}, {"#", "#1"}, {"-0'99", "-99"}, {"(c,d)", "c"}};
        for (String[] reason : reasons) {
            DUE.run(linked(true, reason[0], "about 0 7 = 1", "deliver 1 0 = 2", "about 0 7 = 0", "about 0 1 = 1",
                    "about 0 0 = ALIVE", "shape 0 0 = 122", "leaf 0 0 0 = g", "leaf 0 0 1 = #1",
                    "leaf 0 0 2 = " + reason[1], "leaf 0 0 3 = NONE", "about 0 2 = 1"));
        }
        DUE.run(linked(true, "c", "mail 0 0 1 0", "mail 0 0 2 0", "mail 0 0 3 0", "mail 0 0 4 0", "mail 0 0 5 0",
                "deliver 1 0 = 2", "about 0 1 = 6", "leaf 0 5 0 = g"));
        DUE.run(linked(true, "c", "mail 0 0 1 0", "mail 0 0 2 0", "mail 0 1 1 0", "mail 0 0 4 0", "mail 0 0 5 0",
                "mail 0 0 6 0", "deliver 1 0" + ILLEGAL_STATE, "about 0 7 = 1", "about 0 1 = 6", "leaf 0 5 0 = 6",
                "step 0 = 201", "deliver 1 0 = 4", "about 0 3 = c"));
        DUE.says("Else, if the REASON is the atom a: nothing; 3; else the receiver ENDS with that REASON; 4.");
        DUE.run(linked(false, "a", "mail 0 0 7 0", "deliver 1 0 = 3", "about 0 0 = ALIVE", "about 0 1 = 1",
                "about 0 7 = 0", "leaf 0 6 0 = 8", "about 0 3 = NONE"));
        // the first LEAF is the REASON, and the int 0 and the actor 0 are not the atom a
        DUE.run(linked(false, "(a,b)", "deliver 1 0 = 3"));
        DUE.run(linked(false, "(b,a)", "deliver 1 0 = 4", "about 0 3 = b"));
        for (int i = 1; i < reasons.length; i++) {
            DUE.run(linked(false, reasons[i][0], "mail 0 0 7 0", "deliver 1 0 = 4", "about 0 0 = ENDED",
                    "about 0 3 = " + reasons[i][1], "about 0 1 = 0", "about 0 7 = 0"));
        }
        // six in the MAILBOX do not keep it from one that is not TRAPPING
        String[] six = {"mail 0 0 1 0", "mail 0 0 2 0", "mail 0 0 3 0", "mail 0 0 4 0", "mail 0 0 5 0", "mail 0 0 6 0"};
        DUE.run(linked(false, "a", six[0], six[1], six[2], six[3], six[4], six[5], "deliver 1 0 = 3", "about 0 1 = 6"));
        DUE.run(linked(false, "b", six[0], six[1], six[2], six[3], six[4], six[5], "deliver 1 0 = 4", "about 0 1 = 0"));
    }

    private static void kill() {
        DUE.says("The actor, ALIVE (else IllegalStateException), ENDS with the REASON atom h.");
        DUE.run("kill 0" + ILLEGAL_STATE, "spawn 0 0 = 0", "kill 1" + ILLEGAL_STATE, "kill 0 = 0", "about 0 0 = ENDED",
                "about 0 3 = h", "kill 0" + ILLEGAL_STATE, "about 0 3 = h", "reap 0 = 6", "kill 0" + ILLEGAL_STATE);
        DUE.says("Answers how many it was linked with.");
        for (int links = 0; links <= 5; links++) {
            DUE.run("program 0 a:" + "@1A".repeat(links) + ";", "spawn 0 0 = 0", "mail 0 1 0 0", "step 0 = 0",
                    "kill 0 = " + links, "about 0 4 = 0");
        }
        DUE.run("program 0 a:@1A@1A;", "spawn 0 0 = 0", "mail 0 1 0 0", "step 0 = 0", "kill 2 = 1", "kill 0 = 1",
                "kill 1 = 0");
    }

    private static void reap() {
        DUE.says("Actor ENDED becomes FREE; else IllegalStateException.");
        DUE.run("reap 0" + ILLEGAL_STATE, "spawn 0 0 = 0", "reap 0" + ILLEGAL_STATE, "about 0 0 = ALIVE", "kill 0 = 0",
                "reap 0 = 6", "about 0 0 = FREE", "reap 0" + ILLEGAL_STATE);
        DUE.says("(What is UNDER WAY to and from it stays.)");
        DUE.run("program 0 a:!#1!#2@1A!A3;", "spawn 0 0 = 0", "mail 0 1 0 0", "step 0 = 0", "send 0 0 4 0 = 1",
                "kill 0 = 1", "about 0 6 = 2", "about 1 6 = 2", "reap 0 = 5", "about 0 6 = 2", "about 1 6 = 2",
                "about 0 12 = 1", "spawn 0 0 = 0", "deliver 0 0 = 1", "leaf 0 0 0 = 1", "deliver 0 0 = 1",
                "leaf 0 1 0 = 2", "deliver 6 0 = 1", "leaf 0 2 0 = 4", "deliver 0 1 = 1", "leaf 1 0 0 = 3",
                "deliver 0 1 = 4");
        DUE.says("Answers how many are FREE.");
        DUE.run("spawn 0 0 = 0", "spawn 0 0 = 1", "spawn 0 0 = 2", "spawn 0 0 = 3", "spawn 0 0 = 4", "spawn 0 0 = 5",
                "kill 5 = 0", "kill 0 = 0", "reap 0 = 1", "reap 5 = 2", "kill 3 = 0", "reap 3 = 3", "kill 1 = 0",
                "kill 2 = 0", "kill 4 = 0", "reap 2 = 4", "reap 1 = 5", "reap 4 = 6");
    }
}
