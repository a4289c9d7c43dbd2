/** The sentences on a STEP and its actions that name an edge, and promise 9. */
public final class EdgeStepTest {
    private static final Due DUE = new Due("edges of steps");
    private static final String FAULT = " ! UnsupportedOperationException";
    private static final String DIVISION = " ! ArithmeticException";
    private static final String NO_STEP = " ! NoSuchElementException";
    private static final String ILLEGAL_STATE = " ! IllegalStateException";

    public static void main(String[] args) {
        finding();
        guards();
        taking();
        sending();
        states();
        making();
        linking();
        ending();
        trapping();
        trouble();
        step();
        DUE.close();
    }

    /** A clause for the message (#1,5); the actor is 0 with state 8, actor 1 is there too. */
    private static void run(String clause, String step, String... more) {
        String[] calls = new String[5 + more.length];
        calls[0] = "program 0 " + clause;
        calls[1] = "spawn 0 8 = 0";
        calls[2] = "spawn 1 0 = 1";
        calls[3] = "mail 0 3 5 1";
        calls[4] = "step 0" + step;
        System.arraycopy(more, 0, calls, 5, more.length);
        DUE.run(calls);
    }

    private static void finding() {
        DUE.says("for each message of its MAILBOX from the oldest, for each clause in order");
        DUE.run("program 0 1:~1;2:~2;_:~3;", "spawn 0 8 = 0", "mail 0 0 2 0", "mail 0 0 1 0", "mail 0 0 9 0",
                "step 0 = 1", "step 0 = 0", "step 0 = 2", "step 0" + NO_STEP);
        DUE.run("program 0 1:;1:~1;", "spawn 0 8 = 0", "mail 0 0 1 0", "step 0 = 0", "leaf 0 6 0 = 8");
        for (int place = 0; place < 6; place++) {
            String[] calls = new String[11];
            calls[0] = "program 0 1:;2:;3:;";
            calls[1] = "spawn 0 8 = 0";
            for (int i = 0; i < 6; i++) {
                calls[2 + i] = "mail 0 0 " + (i < place ? 9 : 3) + " 0";
            }
            calls[8] = "about 0 1 = 6";
            calls[9] = "step 0 = " + (100 * place + 2);
            calls[10] = "about 0 1 = 5";
            DUE.run(calls);
        }
        DUE.says("S has the STATE as its value, the other variables none");
        run("(A,B)?1=2:;_?S=8:~1;", " = 1", "leaf 0 6 0 = 1");
        for (char variable = 'A'; variable <= 'E'; variable++) {
            // a clause tried before, or a STEP before, leaves no value
            run("(" + variable + ",9):;(_," + variable + "):~" + variable + ";", " = 1", "leaf 0 6 0 = 5");
            run("(_,_):~" + variable + ";", FAULT);
            DUE.run("program 0 1:;" + variable + "?" + variable + "=2:;_:~" + variable + ";", "spawn 0 8 = 0",
                    "mail 0 0 2 0", "step 0 = 1", "mail 0 0 3 0", "step 0" + FAULT);
        }
        // a message tried before neither
        DUE.run("program 0 (A,9):;(_,A):~A;", "spawn 0 8 = 0", "mail 0 0 4 0", "mail 0 3 5 1", "step 0 = 101",
                "leaf 0 6 0 = 5");
    }

    private static void guards() {
        DUE.says("a FAULT or DIVISION there means that it does not hold");
        String[] troubles = {"C", "+a1", "/10", "((1,2),((3,4),5))", "(C,1)", "/a0", "-#1"};
        for (String trouble : troubles) {
            for (String relation : new String[] {"<", "="}) {
                run("A?" + trouble + relation + "1:;_:~2;", " = 1", "leaf 0 6 0 = 2", "about 0 0 = ALIVE");
                run("A?1" + relation + trouble + ":;_:~2;", " = 1", "leaf 0 6 0 = 2", "about 0 0 = ALIVE");
                run("A?" + trouble + relation + trouble + ":;_:~2;", " = 1", "leaf 0 6 0 = 2");
            }
        }
        DUE.run("program 0 A?+SA=0:;_:~2;", "spawn 0 999 = 0", "mail 0 0 1 0", "step 0 = 1", "about 0 0 = ALIVE");
        run("A?C=C:;", NO_STEP, "about 0 0 = ALIVE", "about 0 1 = 1");
        run("A?/10=/10:;", NO_STEP, "about 0 0 = ALIVE", "about 0 1 = 1");
        DUE.says("'=' holds if they are the same, '<' if both are ints and the left one is less.");
        run("A?4=5:;A?5=4:;A?5=5:;", " = 2");
        run("A?5<4:;A?5<5:;A?4<5:;", " = 2");
        run("A?-01<-02:;A?-01<-01:;A?-02<-01:;", " = 2");
        run("A?0<-01:;A?-01<0:;", " = 1");
        run("A?a<b:;A?1<a:;A?a<1:;A?1<#:;A?#<1:;A?a<#:;_:;", " = 6");
        run("A?1<(1,2):;A?(1,1)<2:;A?(1,1)<(2,2):;_:;", " = 3");
        run("A?A=5:;A?A=#:;(A,B)?A=1:;(A,B)?(A,B)=(B,A):;(A,B)?5=B:;", " = 4");
        DUE.run("program 0 A?S<A:;", "spawn 0 -999 = 0", "mail 0 0 -999 0", "step 0" + NO_STEP, "mail 0 0 999 0",
                "step 0 = 100", "mail 0 0 -998 0", "step 0 = 100");
    }

    private static void taking() {
        DUE.says("The first that fits and holds: the message is taken out, and the actions are done in order with the "
                + "variables as they are then.");
        DUE.run("program 0 5:;", "spawn 0 8 = 0", "mail 0 0 1 0", "mail 0 0 5 0", "mail 0 0 2 0", "mail 0 0 5 0",
                "mail 0 0 3 0", "mail 0 0 5 0", "step 0 = 100", "leaf 0 0 0 = 1", "leaf 0 1 0 = 2", "leaf 0 2 0 = 5",
                "leaf 0 3 0 = 3", "leaf 0 4 0 = 5", "leaf 0 5 0 = NONE", "step 0 = 200", "step 0 = 300",
                "about 0 1 = 3",
                "leaf 0 2 0 = 3", "step 0" + NO_STEP);
        run("(A,B):!AB!A+B1!AA;", " = 0", "about 1 6 = 3", "deliver 0 1 = 1", "deliver 0 1 = 1", "deliver 0 1 = 1",
                "leaf 1 0 0 = 5", "leaf 1 1 0 = 6", "leaf 1 2 0 = #1");
        DUE.says("None: there is no STEP.");
        // no int is taken for what stands behind the last clause
        for (int x = -999; x <= 999; x++) {
            DUE.run("program 0 a:;", "spawn 0 8 = 0", "mail 0 0 " + x + " 0", "step 0" + NO_STEP);
        }
        DUE.run("program 0 _:;", "spawn 0 8 = 0", "step 0" + NO_STEP);
        DUE.run("spawn 0 8 = 0", "mail 0 0 1 0", "step 0" + NO_STEP, "about 0 1 = 1");
        DUE.run("program 0 1:~1;", "spawn 0 8 = 0", "mail 0 0 2 0", "mail 0 0 3 0", "step 0" + NO_STEP, "about 0 1 = 2",
                "leaf 0 0 0 = 2", "leaf 0 1 0 = 3", "leaf 0 6 0 = 8", "mail 0 0 1 0", "step 0 = 200");
    }

    private static void sending() {
        DUE.says("'!': the first is evaluated, then the second; the first is no actor: FAULT.");
        for (String other : new String[] {"0", "5", "a", "h", "(#,#)", "(#,1)"}) {
            run("A:!" + other + "1;", FAULT, "about 0 3 = f", "about 0 6 = 0", "about 1 6 = 0");
        }
        run("A:!C/10;", FAULT);
        run("A:!/10C;", DIVISION);
        run("A:!a/10;", DIVISION);
        run("A:!#C;", FAULT, "about 0 6 = 0");
        run("A:!#/10;", DIVISION, "about 0 6 = 0");
        DUE.says("The second is put UNDER WAY to it, behind what is there; four are there: FAULT.");
        run("A:!#1!#2!#3!#4;", " = 0", "about 0 6 = 4", "deliver 0 0 = 1", "deliver 0 0 = 1", "deliver 0 0 = 1",
                "deliver 0 0 = 1", "leaf 0 0 0 = 1", "leaf 0 1 0 = 2", "leaf 0 2 0 = 3", "leaf 0 3 0 = 4");
        run("A:!#1!#2!#3!#4!#5;", FAULT, "about 0 6 = 4", "about 0 3 = f");
        run("(A,B):!A1!A2!A3!A4!#1;", " = 0", "about 1 6 = 4", "about 0 6 = 1", "about 0 12 = 0", "about 1 12 = 0");
        DUE.run("program 0 (A,B):!AB;", "spawn 0 0 = 0", "spawn 1 0 = 1", "mail 0 3 1 1", "step 0 = 0", "mail 0 3 2 1",
                "step 0 = 0", "mail 0 3 3 1", "step 0 = 0", "mail 0 3 4 1", "step 0 = 0", "deliver 0 1 = 1",
                "mail 0 3 5 1", "step 0 = 0", "about 1 6 = 4", "deliver 0 1 = 1", "deliver 0 1 = 1", "deliver 0 1 = 1",
                "deliver 0 1 = 1", "leaf 1 0 0 = 1", "leaf 1 3 0 = 4", "leaf 1 4 0 = 5");
        // four from the outside are another way
        DUE.run("program 0 (A,B):!AB;", "spawn 0 0 = 0", "send 1 0 1 0 = 1", "send 1 0 1 0 = 2", "send 1 0 1 0 = 3",
                "send 1 0 1 0 = 4", "mail 0 3 7 1", "step 0 = 0", "about 1 6 = 1", "about 1 12 = 4");
        DUE.says("(To one that is FREE or ENDED too.)");
        DUE.run("program 0 (A,B):!AB!AB!AB!AB;", "spawn 0 0 = 0", "mail 0 3 7 5", "step 0 = 0", "about 5 0 = FREE",
                "about 5 6 = 4", "mail 0 3 7 5", "step 0" + FAULT, "about 5 6 = 4");
        DUE.run("program 0 (A,B):!AB!AB!AB!AB;", "spawn 0 0 = 0", "spawn 0 0 = 1", "kill 1 = 0", "mail 0 3 7 1",
                "step 0 = 0", "about 1 0 = ENDED", "about 1 6 = 4", "mail 0 3 7 1", "step 0" + FAULT);
    }

    private static void states() {
        DUE.says("the value is the STATE at the end of the STEP (the last such counts; S stays as it was)");
        run("A:~1~2~3;", " = 0", "leaf 0 6 0 = 3");
        run("A:~+S1~+S1;", " = 0", "leaf 0 6 0 = 9");
        run("A:~1!#S;", " = 0", "leaf 0 6 0 = 1", "deliver 0 0 = 1", "leaf 0 0 0 = 8");
        run("A:;", " = 0", "leaf 0 6 0 = 8");
        run("(A,B):~((A,B),(#,S));", " = 0", "shape 0 6 = 2222", "leaf 0 6 0 = #1", "leaf 0 6 3 = 8");
        run("A:~((A,S),(S,S));", FAULT, "leaf 0 6 0 = NONE");
        run("A:~1~2$c;", " = 0", "leaf 0 6 0 = NONE", "shape 0 6 = NONE");
    }

    private static void making() {
        DUE.says("an ACTOR is made, ALIVE, with that program's text and the int 0 as STATE, under the least number "
                + "that is FREE, and linked with this one; the variable has it as value.");
        for (int program = 0; program <= 2; program++) {
            DUE.run("program 1 a:;b:;", "program 2 a:;b:;c:;", "program 0 A:@" + program + "B~B;", "spawn 0 8 = 0",
                    "mail 0 0 1 0", "step 0 = 0", "about 1 0 = ALIVE", "about 1 1 = 0", "about 1 2 = 0",
                    "about 1 4 = 1",
                    "about 0 4 = 2", "about 1 5 = " + (program + 1), "leaf 1 6 0 = 0", "shape 1 6 = 0",
                    "leaf 0 6 0 = #1", "about 2 0 = FREE");
        }
        DUE.run("program 0 A:@1B~B;", "spawn 1 0 = 0", "spawn 1 0 = 1", "spawn 1 0 = 2", "spawn 1 0 = 3",
                "spawn 0 0 = 4",
                "kill 3 = 0", "kill 1 = 0", "mail 4 0 1 0", "step 4 = 0", "leaf 4 6 0 = #5", "reap 3 = 1", "reap 1 = 2",
                "mail 4 0 1 0", "step 4 = 0", "leaf 4 6 0 = #1", "mail 4 0 1 0", "step 4 = 0", "leaf 4 6 0 = #3",
                "about 4 4 = 42");
        DUE.run("program 0 A:@1B~B;", "spawn 1 0 = 0", "spawn 0 0 = 1", "kill 0 = 0", "reap 0 = 5", "mail 1 0 1 0",
                "step 1 = 0", "leaf 1 6 0 = #0", "about 1 4 = 1", "about 0 4 = 2");
        // a variable that has a value gets a new one, S too, and the STATE is not touched
        run("(A,B):@1A!#A;", " = 0", "deliver 0 0 = 1", "leaf 0 0 0 = #2");
        run("A:@1S!#S;", " = 0", "deliver 0 0 = 1", "leaf 0 0 0 = #2", "leaf 0 6 0 = 8");
        DUE.says("That program is not CHECKED, or none is FREE: FAULT.");
        for (int program = 0; program <= 2; program++) {
            DUE.run("program 0 A:@" + program + "B;", "spawn 0 8 = 0",
                    "type " + program + " 0 = " + (program == 0 ? 6 : 0),
                    "mail 0 0 1 0", "step 0" + FAULT, "about 0 3 = f", "about 1 0 = FREE");
        }
        DUE.run("program 0 A:@1B@1B@1B@1B@1B;", "spawn 0 8 = 0", "mail 0 0 1 0", "step 0 = 0", "about 0 4 = 62",
                "about 5 0 = ALIVE");
        DUE.run("program 0 A:@1B@1B@1B@1B@1B@1B;", "spawn 0 8 = 0", "mail 0 0 1 0", "step 0" + FAULT, "about 0 3 = f",
                "about 5 0 = ALIVE", "about 5 4 = 0", "about 5 6 = 1");
        DUE.run("program 0 A:@1B;", "spawn 0 8 = 0", "spawn 1 0 = 1", "spawn 1 0 = 2", "spawn 1 0 = 3", "spawn 1 0 = 4",
                "spawn 1 0 = 5", "kill 5 = 0", "mail 0 0 1 0", "step 0" + FAULT);
    }

    private static void linking() {
        DUE.says("'&': no actor: FAULT; itself, or FREE or ENDED: nothing; else the two are linked.");
        for (String other : new String[] {"0", "1", "a", "(#,#)", "C"}) {
            run("A:&" + other + ";", FAULT, "about 0 3 = f", "about 1 4 = 0");
        }
        run("A:&/10;", DIVISION, "about 0 3 = d");
        run("A:&#;", " = 0", "about 0 4 = 0", "kill 0 = 0", "about 0 6 = 0");
        run("(A,B):&A;", " = 0", "about 0 4 = 2", "about 1 4 = 1");
        // twice is once
        run("(A,B):&A&A;", " = 0", "about 0 4 = 2", "kill 1 = 1", "about 0 7 = 1", "about 0 4 = 0");
        DUE.run("program 0 (A,B):&A;", "spawn 0 0 = 0", "mail 0 3 1 5", "step 0 = 0", "about 0 4 = 0", "about 5 4 = 0",
                "about 0 0 = ALIVE");
        DUE.run("program 0 (A,B):&A;", "spawn 0 0 = 0", "spawn 0 0 = 1", "kill 1 = 0", "mail 0 3 1 1", "step 0 = 0",
                "about 0 4 = 0", "about 1 4 = 0", "about 0 0 = ALIVE", "about 0 7 = 0");
    }

    private static void ending() {
        DUE.says("'$': the actor ENDS with the first LEAF of the value as REASON; no more actions are done.");
        run("A:$c;", " = 0", "about 0 0 = ENDED", "about 0 3 = c");
        run("A:$a;", " = 0", "about 0 3 = a");
        run("A:$0;", " = 0", "about 0 3 = 0");
        run("A:$-0'99;", " = 0", "about 0 3 = -99");
        run("A:$#;", " = 0", "about 0 3 = #0");
        run("A:$A;", " = 0", "about 0 3 = #1");
        run("A:$(((d,1),2),3);", " = 0", "about 0 3 = d");
        run("A:$(e,(1,(2,3)));", " = 0", "about 0 3 = e");
        run("(A,B):!#1$c!#2&A@1B$d;", " = 0", "about 0 3 = c", "about 0 6 = 1", "about 1 4 = 0", "about 2 0 = FREE");
        run("A:$c~/10;", " = 0", "about 0 3 = c");
        run("A:$C;", FAULT, "about 0 3 = f");
        run("A:$/10;", DIVISION, "about 0 3 = d");
    }

    private static void trapping() {
        DUE.says("'*': TRAPPING from now on for 1, not for 0.");
        run("A:*1;", " = 0", "about 0 2 = 1", "about 1 2 = 0");
        run("A:*0;", " = 0", "about 0 2 = 0");
        run("A:*1*0;", " = 0", "about 0 2 = 0");
        run("A:*0*1;", " = 0", "about 0 2 = 1");
        run("A:;", " = 0", "about 0 2 = 0");
        // it lasts over the STEPS that follow
        DUE.run("program 0 a:*1;b:;c:*0;", "spawn 0 0 = 0", "mail 0 1 0 0", "step 0 = 0", "mail 0 1 1 0", "step 0 = 1",
                "about 0 2 = 1", "mail 0 1 2 0", "step 0 = 2", "about 0 2 = 0");
    }

    private static void trouble() {
        DUE.says("A FAULT or DIVISION in an action: the actor ENDS with the REASON atom f or d; what was done before "
                + "stays (a STATE not: it has none any more).");
        String[] ends = {"C", "/10"};
        for (int i = 0; i < 2; i++) {
            String step = i == 0 ? FAULT : DIVISION;
            String reason = i == 0 ? "f" : "d";
            run("(A,B):!A7@1B&A*1~3~" + ends[i] + "!A9;", step, "about 0 0 = ENDED", "about 0 3 = " + reason,
                    "leaf 0 6 0 = NONE", "shape 0 6 = NONE", "about 0 1 = 0", "about 0 4 = 0", "about 0 5 = NONE",
                    "about 1 6 = 2", "about 2 0 = ALIVE", "about 2 6 = 1", "about 1 4 = 0", "about 2 4 = 0",
                    "deliver 0 1 = 1", "leaf 1 0 0 = 7", "deliver 0 1 = 4", "about 1 3 = " + reason, "deliver 0 2 = 4",
                    "about 2 3 = " + reason);
            // the first action may have it
            run("A:~" + ends[i] + "!#1;", step, "about 0 6 = 0", "about 0 3 = " + reason);
        }
    }

    private static void step() {
        DUE.says("The actor is not ALIVE: IllegalStateException.");
        DUE.run("step 0" + ILLEGAL_STATE, "spawn 0 0 = 0", "step 1" + ILLEGAL_STATE, "kill 0 = 0",
                "step 0" + ILLEGAL_STATE,
                "reap 0 = 6", "step 0" + ILLEGAL_STATE);
        DUE.says("A STEP; there is none: NoSuchElementException.");
        DUE.run("program 0 _:;", "spawn 0 0 = 0", "step 0" + NO_STEP, "mail 0 0 1 0", "step 0 = 0", "step 0" + NO_STEP);
        // what is UNDER WAY is not yet in the MAILBOX
        DUE.run("program 0 _:;", "spawn 0 0 = 0", "send 0 0 1 0 = 1", "step 0" + NO_STEP, "deliver 6 0 = 1",
                "step 0 = 0");
        DUE.says("It ENDS by a FAULT: UnsupportedOperationException; by a DIVISION: ArithmeticException (what was done "
                + "stays for both).");
        run("A:!#1~C;", FAULT, "about 0 0 = ENDED", "about 0 3 = f", "about 0 6 = 1");
        run("A:!#1~/10;", DIVISION, "about 0 0 = ENDED", "about 0 3 = d", "about 0 6 = 1");
        // an end with the REASON f or d is no FAULT and no DIVISION
        run("A:$f;", " = 0", "about 0 3 = f");
        run("A:$d;", " = 0", "about 0 3 = d");
        DUE.says("Answers the clause's number from 0 plus 100 times the message's place in the MAILBOX.");
        String twenty = "1:;1:;1:;1:;1:;1:;1:;1:;1:;1:;1:;1:;1:;1:;1:;1:;1:;1:;1:;2:;";
        DUE.run("program 0 " + twenty, "spawn 0 0 = 0", "mail 0 0 3 0", "mail 0 0 3 0", "mail 0 0 3 0", "mail 0 0 3 0",
                "mail 0 0 3 0", "mail 0 0 2 0", "step 0 = 519", "mail 0 0 1 0", "step 0 = 500");
        DUE.run("program 0 " + twenty, "spawn 0 0 = 0", "mail 0 0 2 0", "mail 0 0 1 0", "step 0 = 19", "step 0 = 0");
    }
}
