/** Promise 9, with fitting, evaluating and the actions. */
public final class StepTest {
    private static final Due DUE = new Due("promise 9");

    public static void main(String[] args) {
        refusals();
        order();
        fitting();
        guards();
        evaluating();
        sending();
        states();
        making();
        linking();
        endings();
        DUE.close();
    }

    /** The state of an actor of state 8 behind a step of a program with the message (b,5). */
    private static void state(String program, String... more) {
        String[] calls = new String[more.length + 4];
        calls[0] = "program 0 " + program;
        calls[1] = "spawn 0 8 = 0";
        calls[2] = "mail 0 2 5 1";
        calls[3] = "step 0 = 0";
        System.arraycopy(more, 0, calls, 4, more.length);
        DUE.run(calls);
    }

    /** The actor of state 8 ends by trouble in the step. */
    private static void trouble(String program, boolean division) {
        DUE.run("program 0 " + program, "spawn 0 8 = 0", "mail 0 2 5 1", "mail 0 0 1 0",
                "step 0 ! " + (division ? "ArithmeticException" : "UnsupportedOperationException"),
                "about 0 0 = ENDED", "about 0 1 = 0", "about 0 3 = " + (division ? "d" : "f"), "leaf 0 6 0 = NONE",
                "shape 0 6 = NONE", "about 0 5 = NONE", "step 0 ! IllegalStateException");
    }

    /** The message (b,5) fits no clause, and nothing changes. */
    private static void none(String program) {
        DUE.run("program 0 " + program, "spawn 0 8 = 0", "mail 0 2 5 1", "step 0 ! NoSuchElementException",
                "about 0 0 = ALIVE", "about 0 1 = 1", "leaf 0 0 0 = b", "leaf 0 6 0 = 8");
    }

    private static void refusals() {
        DUE.run("step -1 ! IllegalArgumentException", "step 6 ! IllegalArgumentException",
                "step 0 ! IllegalStateException", "program 0 A:;", "spawn 0 0 = 0", "step 0 ! NoSuchElementException",
                "kill 0 = 0", "step 0 ! IllegalStateException");
        DUE.run("spawn 0 0 = 0", "mail 0 0 1 0", "step 0 ! NoSuchElementException", "about 0 1 = 1");
    }

    private static void order() {
        // the oldest message that some clause takes, then the first clause
        DUE.run("program 0 3:~3;A?A=2:~2;A?A<3:~1;", "spawn 0 0 = 0", "mail 0 0 9 0", "mail 0 1 0 0", "mail 0 0 2 0",
                "mail 0 0 3 0", "step 0 = 201", "leaf 0 6 0 = 2", "about 0 1 = 3", "leaf 0 0 0 = 9", "leaf 0 1 0 = a",
                "leaf 0 2 0 = 3", "step 0 = 200", "leaf 0 6 0 = 3", "step 0 ! NoSuchElementException",
                "mail 0 0 1 0", "mail 0 0 2 0", "mail 0 0 3 0", "mail 0 0 3 0", "step 0 = 202", "step 0 = 201",
                "step 0 = 200", "step 0 = 200");
        DUE.run("program 0 7:;", "spawn 0 0 = 0", "mail 0 0 1 0", "mail 0 0 1 0", "mail 0 0 1 0", "mail 0 0 1 0",
                "mail 0 0 1 0", "mail 0 0 7 0", "step 0 = 500", "about 0 1 = 5");
        DUE.run("program 0 1:;1:;1:;1:;1:;1:;1:;1:;1:;1:;1:;1:;1:;1:;1:;1:;1:;1:;1:;2:;", "spawn 0 0 = 0",
                "about 0 5 = 20", "mail 0 0 2 0", "step 0 = 19");
    }

    private static void fitting() {
        state("_:~1;", "leaf 0 6 0 = 1");
        state("A:~A;", "shape 0 6 = 11", "leaf 0 6 0 = b", "leaf 0 6 1 = 5");
        state("(b,5):~1;", "leaf 0 6 0 = 1");
        state("(E,D):~(D,E);", "leaf 0 6 0 = 5", "leaf 0 6 1 = b");
        state("(_,_):;", "leaf 0 6 0 = 8");
        state("(b,'05):;", "leaf 0 6 0 = 8");
        none("b:;");
        none("5:;");
        none("S:;");
        none("(c,5):;");
        none("(b,6):;");
        none("(b,'50):;");
        none("(A,A):;");
        none("(b,S):;");
        none("(5,b):;");
        none("((_,_),_):;");
        none("(_,(_,_)):;");
        // variables of a clause that did not fit are gone in the next
        DUE.run("program 0 (A,6):;(B,A):~A;", "spawn 0 8 = 0", "mail 0 2 5 1", "step 0 = 1", "leaf 0 6 0 = 5");
        DUE.run("program 0 (A,6):;_?A=b:;_:~A;", "spawn 0 8 = 0", "mail 0 2 5 1",
                "step 0 ! UnsupportedOperationException");
        // S has the state as its value
        DUE.run("program 0 (b,S):~1;", "spawn 0 5 = 0", "mail 0 2 5 1", "step 0 = 0", "leaf 0 6 0 = 1");
        DUE.run("program 0 S:~a;A:~A;", "spawn 0 5 = 0", "mail 0 2 5 1", "step 0 = 1", "mail 0 2 4 1", "mail 0 2 5 1",
                "mail 0 3 5 1", "step 0 = 1", "shape 0 6 = 11", "mail 0 2 4 1", "step 0 = 1", "step 0 = 1",
                "step 0 = 1");
        DUE.run("program 0 S:~a;9:~(b,4);", "spawn 0 5 = 0", "mail 0 2 4 1", "mail 0 0 9 0", "step 0 = 101",
                "step 0 = 0", "leaf 0 6 0 = a");
        // a number is no atom and no actor
        DUE.run("program 0 0:~1;a:~2;A:~3;", "spawn 0 5 = 0", "mail 0 1 0 0", "step 0 = 1", "mail 0 0 0 0",
                "step 0 = 0");
        // terms built otherwise of the same leaves are not the same
        DUE.run("program 0 S:~1;(a,B):~(a,(B,a))!#((a,B),a)!#(a,(B,a));_:~S;", "spawn 0 5 = 0", "mail 0 2 3 0",
                "step 0 = 1", "shape 0 6 = 122", "deliver 0 0 = 1", "shape 0 0 = 221", "step 0 = 2",
                "deliver 0 0 = 1", "shape 0 0 = 122", "step 0 = 0", "leaf 0 6 0 = 1");
        // the parts of deeper pairs
        DUE.run("program 0 a:!#((1,2),(3,4));((A,B),(C,D)):~(D,(C,(B,A)));", "spawn 0 5 = 0", "mail 0 1 0 0",
                "step 0 = 0", "deliver 0 0 = 1", "shape 0 0 = 2222", "step 0 = 1", "shape 0 6 = 1233",
                "leaf 0 6 0 = 4", "leaf 0 6 1 = 3", "leaf 0 6 2 = 2", "leaf 0 6 3 = 1");
        DUE.run("program 0 a:!#(((1,2),3),4);(A,B):~(B,A);", "spawn 0 5 = 0", "mail 0 1 0 0", "step 0 = 0",
                "deliver 0 0 = 1", "shape 0 0 = 3321", "step 0 = 1", "shape 0 6 = 1332", "leaf 0 6 0 = 4",
                "leaf 0 6 1 = 1", "leaf 0 6 2 = 2", "leaf 0 6 3 = 3");
        DUE.run("program 0 a:!#((1,(2,3)),4);((A,B),4):~(B,A);", "spawn 0 5 = 0", "mail 0 1 0 0", "step 0 = 0",
                "deliver 0 0 = 1", "shape 0 0 = 2331", "step 0 = 1", "shape 0 6 = 221", "leaf 0 6 0 = 2",
                "leaf 0 6 1 = 3", "leaf 0 6 2 = 1");
        DUE.run("program 0 a:!#(1,((2,3),4));(A,(B,4)):~(B,A);", "spawn 0 5 = 0", "mail 0 1 0 0", "step 0 = 0",
                "deliver 0 0 = 1", "shape 0 0 = 1332", "step 0 = 1", "shape 0 6 = 221", "leaf 0 6 0 = 2",
                "leaf 0 6 1 = 3", "leaf 0 6 2 = 1");
    }

    private static void guards() {
        state("(A,B)?B<6:~1;", "leaf 0 6 0 = 1");
        state("(A,B)?(A,B)=(b,5):~1;", "leaf 0 6 0 = 1");
        state("A?A=(b,5):~1;", "leaf 0 6 0 = 1");
        state("A?#=#:~1;", "leaf 0 6 0 = 1");
        state("A?-05<0:~1;", "leaf 0 6 0 = 1");
        state("A?S='08:~1;", "leaf 0 6 0 = 1");
        none("(A,B)?B<5:;");
        none("(A,B)?B<4:;");
        none("(A,B)?A<B:;");
        none("(A,B)?B<A:;");
        none("A?a<b:;");
        none("A?1<#:;");
        none("A?(1,1)<(2,2):;");
        none("A?1<(1,1):;");
        none("A?a=b:;");
        none("A?#=0:;");
        none("A?1=a:;");
        none("A?(b,5)=(5,b):;");
        none("A?(a,(a,a))=((a,a),a):;");
        // a fault or division on either side: it does not hold
        none("A?B=B:;");
        none("A?1=B:;");
        none("A?/10=/10:;");
        none("A?1=/10:;");
        none("A?+a1=1:;");
        none("A?((1,2),(3,4))=((1,2),((3,4),5)):;");
        none("A?B<1:;");
        // and the trouble is forgotten
        DUE.run("program 0 A?B=1:;A?/10=1:;A:~1;", "spawn 0 0 = 0", "mail 0 0 7 0", "step 0 = 2", "leaf 0 6 0 = 1");
        DUE.run("program 0 A?/1A=1:~1;A:~2;", "spawn 0 0 = 0", "mail 0 0 0 0", "step 0 = 1", "mail 0 0 1 0",
                "step 0 = 0");
    }

    private static void evaluating() {
        state("(A,B):~+B'12;", "leaf 0 6 0 = 17");
        state("(A,B):~-BS;", "leaf 0 6 0 = -3");
        state("(A,B):~/-0SB;", "leaf 0 6 0 = -1");
        state("(A,B):~/S-0B;", "leaf 0 6 0 = -1");
        state("(A,B):~/SB;", "leaf 0 6 0 = 1");
        state("(A,B):~/0B;", "leaf 0 6 0 = 0");
        state("A:~'00;", "leaf 0 6 0 = 0");
        state("A:~'99;", "leaf 0 6 0 = 99");
        state("A:~--/9211;", "leaf 0 6 0 = 2");
        state("A:~#;", "leaf 0 6 0 = #0");
        state("A:~h;", "leaf 0 6 0 = h");
        trouble("A:~((a,1),(#,A));", false);
        DUE.run("program 0 A:~+SA;", "spawn 0 998 = 0", "mail 0 0 1 0", "step 0 = 0", "leaf 0 6 0 = 999",
                "mail 0 0 1 0", "step 0 ! UnsupportedOperationException", "about 0 3 = f");
        DUE.run("program 0 A:~-SA;", "spawn 0 -998 = 0", "mail 0 0 1 0", "step 0 = 0", "leaf 0 6 0 = -999",
                "mail 0 0 1 0", "step 0 ! UnsupportedOperationException", "about 0 3 = f");
        trouble("A:~B;", false);
        trouble("A:~+1a;", false);
        trouble("A:~-#1;", false);
        trouble("A:~+A1;", false);
        trouble("A:~/a0;", false);
        trouble("A:~/1a;", false);
        trouble("A:~(A,(A,1));", false);
        trouble("A:~/10;", true);
        trouble("A:~/00;", true);
        trouble("A:~/1-11;", true);
        // from the left: the first trouble counts, a part's before the whole's
        trouble("A:~+B/10;", false);
        trouble("A:~+/10B;", true);
        trouble("A:~(/10,B);", true);
        trouble("A:~(B,/10);", false);
        trouble("A:~+a/10;", true);
        trouble("A:~((A,A),(1,/10));", true);
        trouble("A:~((A,A),1);", false);
    }

    private static void sending() {
        DUE.run("program 0 a:!#1!#2!#3!#4;b:!#5;", "spawn 0 0 = 0", "mail 0 1 0 0", "step 0 = 0", "about 0 6 = 4",
                "deliver 0 0 = 1", "leaf 0 0 0 = 1", "mail 0 1 1 0", "step 0 = 101", "about 0 6 = 4",
                "deliver 0 0 = 1", "deliver 0 0 = 1", "deliver 0 0 = 1", "deliver 0 0 = 1", "leaf 0 4 0 = 5");
        DUE.run("program 0 a:!#1!#2!#3!#4!#5;", "spawn 0 0 = 0", "mail 0 1 0 0",
                "step 0 ! UnsupportedOperationException", "about 0 3 = f", "about 0 6 = 4");
        // to one that is free or ended
        DUE.run("program 0 (A,B):!AB;", "spawn 0 0 = 0", "spawn 0 0 = 1", "kill 1 = 0", "mail 0 3 7 5",
                "mail 0 3 8 1", "step 0 = 0", "step 0 = 0", "about 5 6 = 1", "about 1 6 = 1", "deliver 0 5 = 0",
                "deliver 0 1 = 0");
        trouble("A:!a1;", false);
        trouble("A:!11;", false);
        trouble("A:!(#,1)1;", false);
        trouble("A:!B/10;", false);
        trouble("A:!/10B;", true);
        trouble("A:!a/10;", true);
        trouble("A:!#B;", false);
        trouble("A:!#/10;", true);
        // what was sent before the trouble stays sent
        DUE.run("program 0 a:!#1~2!##~/10!#3;", "spawn 0 0 = 0", "mail 0 1 0 0", "step 0 ! ArithmeticException",
                "about 0 6 = 2", "about 0 3 = d", "leaf 0 6 0 = NONE", "reap 0 = 6", "spawn 0 0 = 0",
                "deliver 0 0 = 1", "leaf 0 0 0 = 1");
        // signals count among the four
        DUE.run("program 0 (A,B)?B=9:!AB!AB!AB&A$a;(A,B):!AB!AB;", "spawn 0 0 = 0", "spawn 1 0 = 1", "mail 0 3 9 1",
                "step 0 = 0", "about 1 6 = 4", "reap 0 = 5", "spawn 0 0 = 0", "mail 0 3 1 1",
                "step 0 ! UnsupportedOperationException", "about 1 6 = 4");
    }

    private static void states() {
        state("(A,B):~(S,B)~(S,A);", "shape 0 6 = 11", "leaf 0 6 0 = 8", "leaf 0 6 1 = b");
        // S stays as it was in the step
        state("A:~1!#S;", "leaf 0 6 0 = 1", "deliver 0 0 = 1", "leaf 0 0 0 = 8");
        state("A:~+S1~+S1;", "leaf 0 6 0 = 9");
        state("A:;", "leaf 0 6 0 = 8", "about 0 1 = 0");
        state("A:~1$c;", "leaf 0 6 0 = NONE", "about 0 3 = c");
    }

    private static void making() {
        DUE.run("program 1 A:~A;b:;", "program 0 A:@1B!BA~B@2A&A~(A,B);", "spawn 2 3 = 0", "spawn 0 5 = 1",
                "kill 0 = 0", "reap 0 = 5", "mail 1 0 7 0", "step 1 = 0", "about 0 0 = ALIVE", "leaf 0 6 0 = 0",
                "about 0 5 = 2", "about 2 5 = 0", "about 1 4 = 5", "about 0 4 = 2", "about 2 4 = 2",
                "leaf 1 6 0 = #2", "leaf 1 6 1 = #0", "deliver 1 0 = 1", "step 0 = 0", "leaf 0 6 0 = 7");
        // S may be the variable; the state is not changed by it
        DUE.run("program 0 A:@1S!#S;", "spawn 0 5 = 0", "mail 0 0 7 0", "step 0 = 0", "leaf 0 6 0 = 5",
                "deliver 0 0 = 1", "leaf 0 0 0 = #1");
        // not checked, or none free
        DUE.run("program 0 A:@1B;", "put 1 a", "spawn 0 5 = 0", "mail 0 0 7 0",
                "step 0 ! UnsupportedOperationException", "about 0 3 = f", "about 1 0 = FREE");
        DUE.run("program 0 A:@1B;", "spawn 0 5 = 0", "type 1 0 = 0", "mail 0 0 7 0",
                "step 0 ! UnsupportedOperationException");
        DUE.run("program 0 A:@1B@1B@1B@1B@1B@1B;", "spawn 0 5 = 0", "mail 0 0 7 0",
                "step 0 ! UnsupportedOperationException", "about 0 0 = ENDED", "about 5 0 = ALIVE", "about 5 4 = 0",
                "about 5 6 = 1", "about 1 6 = 1", "deliver 0 5 = 4", "about 5 3 = f");
        // the text as it is now
        DUE.run("program 0 A:@0B;", "spawn 0 5 = 0", "program 0 A:;b:;", "mail 0 0 7 0", "step 0 = 0",
                "about 1 5 = 2", "about 0 5 = 1");
    }

    private static void linking() {
        DUE.run("program 0 (A,B):&A;A:&A;", "spawn 0 0 = 0", "spawn 0 0 = 1", "spawn 0 0 = 2", "mail 0 3 0 1",
                "step 0 = 0", "about 0 4 = 2", "about 1 4 = 1", "mail 0 3 0 1", "step 0 = 0", "about 0 4 = 2",
                "mail 1 3 0 2", "step 1 = 0", "about 1 4 = 5", "about 2 4 = 2", "mail 0 3 0 0", "step 0 = 0",
                "about 0 4 = 2", "mail 0 3 0 5", "step 0 = 0", "about 0 4 = 2", "about 5 4 = 0", "kill 2 = 1",
                "mail 0 3 0 2", "step 0 = 0", "about 0 4 = 2", "about 2 4 = 0", "mail 0 0 3 0",
                "step 0 ! UnsupportedOperationException", "about 1 4 = 0", "about 1 6 = 1");
        trouble("A:&a;", false);
        trouble("A:&1;", false);
        trouble("A:&(#,#);", false);
        trouble("A:&B;", false);
        trouble("A:&/10;", true);
    }

    private static void endings() {
        state("A:$c~1!#1;", "about 0 0 = ENDED", "about 0 3 = c", "about 0 6 = 0", "about 0 1 = 0");
        state("A:$((5,a),b);", "about 0 3 = 5");
        state("A:$A;", "about 0 3 = b");
        state("A:$#;", "about 0 3 = #0");
        state("A:$-05;", "about 0 3 = -5");
        state("A:$f;", "about 0 3 = f");
        state("A:$d;", "about 0 3 = d");
        state("A:$(f,d)$g;", "about 0 3 = f");
        trouble("A:$B;", false);
        trouble("A:$/10;", true);
        trouble("A:!#1$/10;", true);
        // trapping from now on
        state("A:*1;", "about 0 2 = 1");
        state("A:*1*0;", "about 0 2 = 0");
        state("A:*0*1*1;", "about 0 2 = 1");
        DUE.run("program 0 a:*1;b:$h;", "spawn 0 0 = 0", "mail 0 1 0 0", "step 0 = 0", "mail 0 1 1 0", "step 0 = 1",
                "about 0 2 = 0", "about 0 3 = h");
        // the whole mailbox is gone
        DUE.run("program 0 a:$b;", "spawn 0 0 = 0", "mail 0 0 1 0", "mail 0 1 0 0", "mail 0 0 2 0", "step 0 = 100",
                "about 0 1 = 0", "leaf 0 0 0 = NONE", "about 0 5 = NONE");
    }
}
