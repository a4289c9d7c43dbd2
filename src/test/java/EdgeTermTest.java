/** The sentences on TERMS, on EVALUATING and on FITTING that name an edge. */
public final class EdgeTermTest {
    private static final Due DUE = new Due("edges of terms");
    private static final String[] FOUR_LEAVES = {"((1,2),(3,4))", "(1,(2,(3,4)))", "(1,((2,3),4))", "((1,(2,3)),4)",
        "(((1,2),3),4)"};
    private static final int[] FOUR_SHAPES = {2222, 1233, 1332, 2331, 3321};

    public static void main(String[] args) {
        terms();
        simpleValues();
        pairs();
        calculating();
        fitting();
        DUE.close();
    }

    /** The expression's value, told by shape and leaves; the actor's state is 8. */
    private static void value(String expression, int shape, String... leaves) {
        String[] calls = new String[9];
        calls[0] = "program 0 a:~" + expression + ";";
        calls[1] = "spawn 0 8 = 0";
        calls[2] = "mail 0 1 0 0";
        calls[3] = "step 0 = 0";
        calls[4] = "shape 0 6 = " + shape;
        for (int k = 0; k < 4; k++) {
            calls[5 + k] = "leaf 0 6 " + k + " = " + (k < leaves.length ? leaves[k] : "NONE");
        }
        DUE.run(calls);
    }

    private static void number(String expression, int value) {
        value(expression, 0, Integer.toString(value));
    }

    private static void faults(String expression) {
        DUE.run("program 0 a:~" + expression + ";", "spawn 0 8 = 0", "mail 0 1 0 0",
                "step 0 ! UnsupportedOperationException", "about 0 0 = ENDED", "about 0 3 = f");
    }

    private static void divides(String expression) {
        DUE.run("program 0 a:~" + expression + ";", "spawn 0 8 = 0", "mail 0 1 0 0", "step 0 ! ArithmeticException",
                "about 0 0 = ENDED", "about 0 3 = d");
    }

    private static void same(String left, String right, boolean isSame) {
        DUE.run("program 0 a?" + left + "=" + right + ":;_:;", "spawn 0 8 = 0", "mail 0 1 0 0",
                "step 0 = " + (isSame ? 0 : 1));
    }

    private static void terms() {
        DUE.says("A TERM has LEAVES, its ints, atoms and actors in all; at most 4.");
        for (int i = 0; i < FOUR_LEAVES.length; i++) {
            value(FOUR_LEAVES[i], FOUR_SHAPES[i], "1", "2", "3", "4");
            faults("(0," + FOUR_LEAVES[i] + ")");
            faults("(" + FOUR_LEAVES[i] + ",0)");
        }
        value("((1,a),(#,h))", 2222, "1", "a", "#0", "h");
        faults("((1,a),(#,(h,0)))");
        DUE.says("Ints in it are -999 .. 999.");
        DUE.run("spawn 0 -999 = 0", "spawn 0 999 = 1", "spawn 0 -1000 ! IllegalArgumentException",
                "spawn 0 1000 ! IllegalArgumentException", "leaf 0 6 0 = -999", "leaf 1 6 0 = 999");
        for (int kind : new int[] {0, 2, 3}) {
            int last = kind == 0 ? 0 : 1;
            DUE.run("spawn 0 0 = 0", "send 0 " + kind + " -999 0 = 1", "send 0 " + kind + " 999 0 = 2",
                    "send 0 " + kind + " -1000 0 ! IllegalArgumentException",
                    "send 0 " + kind + " 1000 0 ! IllegalArgumentException", "deliver 6 0 = 1", "deliver 6 0 = 1",
                    "leaf 0 0 " + last + " = -999", "leaf 0 1 " + last + " = 999");
        }
        DUE.says("TERMS are the same if they are built alike of the same.");
        for (int i = 0; i < FOUR_LEAVES.length; i++) {
            for (int j = 0; j < FOUR_LEAVES.length; j++) {
                same(FOUR_LEAVES[i], FOUR_LEAVES[j], i == j);
            }
            for (int k = 1; k <= 4; k++) {
                same(FOUR_LEAVES[i], FOUR_LEAVES[i].replace((char) ('0' + k), '9'), false);
            }
        }
        same("(1,(2,3))", "((1,2),3)", false);
        same("(1,(2,3))", "(1,(2,3))", true);
        same("(1,2)", "(2,1)", false);
        same("1", "(1,1)", false);
        same("0", "a", false);
        same("0", "#", false);
        same("a", "#", false);
        same("a", "b", false);
        same("#", "#", true);
        same("'08", "S", true);
        same("-01", "1", false);
    }

    private static void simpleValues() {
        DUE.says("a number, an atom: that");
        for (int i = 0; i <= 99; i++) {
            number(i < 10 ? Integer.toString(i) : "'" + i, i);
        }
        number("'00", 0);
        number("'09", 9);
        for (char atom = 'a'; atom <= 'h'; atom++) {
            value(Character.toString(atom), 0, Character.toString(atom));
        }
        DUE.says("a variable: its value, without one: FAULT");
        for (char variable = 'A'; variable <= 'E'; variable++) {
            faults(Character.toString(variable));
            DUE.run("program 0 " + variable + ":~" + variable + ";", "spawn 0 8 = 0", "mail 0 0 7 0", "step 0 = 0",
                    "leaf 0 6 0 = 7");
        }
        number("S", 8);
        DUE.says("'#': the actor itself");
        DUE.run("program 0 a:~#;", "spawn 0 0 = 0", "spawn 0 0 = 1", "spawn 0 0 = 2", "spawn 0 0 = 3", "spawn 0 0 = 4",
                "spawn 0 0 = 5", "mail 0 1 0 0", "mail 5 1 0 0", "step 0 = 0", "step 5 = 0", "leaf 0 6 0 = #0",
                "leaf 5 6 0 = #5");
    }

    private static void pairs() {
        DUE.says("a pair, built of its two parts' values from the left: more than 4 LEAVES: FAULT");
        value("(1,2)", 11, "1", "2");
        // the sum of both parts' leaves: 1 to 4 of the state with 1 to 4 others
        String[] states = {"1", "(1,2)", "(1,(2,3))", "((1,2),(3,4))"};
        String[] others = {"a", "(a,b)", "((a,b),c)", "(a,(b,(c,d)))"};
        for (int i = 0; i < 4; i++) {
            for (int j = 0; j < 4; j++) {
                String ends = i + j + 2 > 4 ? " ! UnsupportedOperationException" : " = 1";
                String status = i + j + 2 > 4 ? "ENDED" : "ALIVE";
                DUE.run("program 0 a:~" + states[i] + ";b:~(S," + others[j] + ");", "spawn 0 8 = 0", "mail 0 1 0 0",
                        "step 0 = 0", "mail 0 1 1 0", "step 0" + ends, "about 0 0 = " + status);
                DUE.run("program 0 a:~" + states[i] + ";b:~(" + others[j] + ",S);", "spawn 0 8 = 0", "mail 0 1 0 0",
                        "step 0 = 0", "mail 0 1 1 0", "step 0" + ends, "about 0 0 = " + status);
            }
        }
        // the left part's trouble comes before the right one's, and both before the pair's own
        divides("(/10,A)");
        faults("(A,/10)");
        divides("(((1,2),(3,4)),/10)");
        faults("(((1,2),((3,4),5)),/10)");
    }

    private static void calculating() {
        DUE.says("'+', '-', '/': both parts' values, from the left");
        number("+52", 7);
        number("-52", 3);
        number("-25", -3);
        number("/62", 3);
        number("/26", 0);
        number("-+1'10/93", 8);
        divides("+/10A");
        faults("+A/10");
        divides("+a/10");
        // four open at once
        number("++++12345", 15);
        number("+1+2+3+45", 15);
        value("(1,+2+3+45)", 11, "1", "14");
        value("(1,(2,(3,+45)))", 1233, "1", "2", "3", "9");
        value("(((+12,3),4),5)", 3321, "3", "3", "4", "5");
        DUE.run("program 0 A?++++12345=+5+4+3+21:!#++++12345;", "spawn 0 8 = 0", "mail 0 0 1 0", "step 0 = 0",
                "deliver 0 0 = 1", "leaf 0 0 0 = 15");
        DUE.run("program 0 A:$----12345;", "spawn 0 8 = 0", "mail 0 0 1 0", "step 0 = 0", "about 0 3 = -13");
        DUE.run("program 0 A:!++++12345++++11111;", "spawn 0 8 = 0", "mail 0 0 1 0",
                "step 0 ! UnsupportedOperationException", "about 0 3 = f");
        DUE.run("program 0 A:!////12340////11110;", "spawn 0 8 = 0", "mail 0 0 1 0", "step 0 ! ArithmeticException");
        DUE.run("program 0 A:!#////11110;", "spawn 0 8 = 0", "mail 0 0 1 0", "step 0 ! ArithmeticException");
        DUE.run("program 0 A:&////11110;", "spawn 0 8 = 0", "mail 0 0 1 0", "step 0 ! ArithmeticException");
        DUE.says("not two ints: FAULT");
        for (String sign : new String[] {"+", "-", "/"}) {
            for (String other : new String[] {"a", "h", "#", "(1,2)", "A"}) {
                faults(sign + "1" + other);
                faults(sign + other + "1");
                faults(sign + other + other);
            }
        }
        faults("/a0");
        faults("/(1,2)0");
        DUE.says("'/' by 0: DIVISION");
        divides("/10");
        divides("/00");
        divides("/-010");
        divides("/S-SS");
        divides("/1'00");
        divides("/1/12");
        divides("(a,+1/10)");
        number("/01", 0);
        DUE.says("cuts toward 0");
        number("/72", 3);
        number("/-072", -3);
        number("/7-02", -3);
        number("/-07-02", 3);
        number("/12", 0);
        number("/-012", 0);
        number("/'99'50", 1);
        number("/-0'99'50", -1);
        DUE.says("a result outside -999 .. 999: FAULT");
        sum(998, '+', 1, true);
        sum(999, '+', 0, true);
        sum(999, '+', 1, false);
        sum(999, '+', 999, false);
        sum(-999, '+', -1, false);
        sum(-998, '+', -1, true);
        sum(-999, '-', 0, true);
        sum(-999, '-', 1, false);
        sum(-999, '-', 999, false);
        sum(999, '-', -1, false);
        sum(999, '-', -999, false);
        sum(-999, '-', -999, true);
        sum(999, '-', 999, true);
        sum(0, '-', 999, true);
        sum(0, '-', -999, true);
        sum(999, '/', -1, true);
        sum(-999, '/', -1, true);
        sum(-999, '/', 999, true);
        // a part's result too, though the whole would be inside again
        DUE.run("program 0 A:~-+SA1;", "spawn 0 999 = 0", "mail 0 0 1 0", "step 0 ! UnsupportedOperationException");
        DUE.run("program 0 A:~+-SA1;", "spawn 0 999 = 0", "mail 0 0 1 0", "step 0 = 0", "leaf 0 6 0 = 999");
    }

    private static void sum(int state, char sign, int x, boolean isInside) {
        int due = sign == '+' ? state + x : sign == '-' ? state - x : state / x;
        DUE.run("program 0 A:~" + sign + "SA;", "spawn 0 " + state + " = 0", "mail 0 0 " + x + " 0",
                isInside ? "step 0 = 0" : "step 0 ! UnsupportedOperationException",
                "leaf 0 6 0 = " + (isInside ? due : "NONE"), "about 0 3 = " + (isInside ? "NONE" : "f"));
    }

    /** The message, sent by the actor itself, fits the pattern or does not; the state is 8. */
    private static void fit(String message, String pattern, boolean fits) {
        DUE.run("program 0 7:!#" + message + ";" + pattern + ":;_:;", "spawn 0 8 = 0", "mail 0 0 7 0", "step 0 = 0",
                "deliver 0 0 = 1", "step 0 = " + (fits ? 1 : 2));
    }

    private static void fitting() {
        DUE.says("a number or atom fits the same");
        for (int x : new int[] {0, 9, 10, 99}) {
            fit("'" + (x < 10 ? "0" : "") + x, "'" + (x < 10 ? "0" : "") + x, true);
        }
        fit("0", "'00", true);
        fit("9", "'09", true);
        fit("9", "'90", false);
        fit("1", "2", false);
        fit("-01", "1", false);
        fit("a", "a", true);
        fit("h", "h", true);
        fit("a", "b", false);
        fit("0", "a", false);
        fit("a", "0", false);
        fit("#", "0", false);
        fit("#", "a", false);
        fit("(1,1)", "1", false);
        fit("(a,a)", "a", false);
        DUE.says("'_' any");
        for (String message : new String[] {"0", "a", "#", "(1,2)", "((1,2),(3,4))"}) {
            fit(message, "_", true);
        }
        fit("(1,2)", "(_,_)", true);
        fit("((1,2),(3,4))", "(_,_)", true);
        DUE.says("a variable with a value fits the same, one without gets the TERM as its value");
        for (String message : new String[] {"0", "a", "#", "(1,2)"}) {
            fit(message, "A", true);
            fit("(" + message + "," + message + ")", "(A,A)", true);
            fit("(" + message + "," + message + ")", "(E,E)", true);
            fit("(" + message + ",b)", "(A,A)", false);
            fit("(b," + message + ")", "(A,A)", false);
            fit("(b," + message + ")", "(A,B)", true);
        }
        fit("8", "S", true);
        fit("9", "S", false);
        fit("(8,8)", "(S,S)", true);
        fit("(8,9)", "(S,A)", true);
        fit("((1,2),(1,2))", "((A,B),(A,B))", true);
        fit("((1,2),(2,1))", "((A,B),(A,B))", false);
        fit("((1,2),(2,1))", "((A,B),(B,A))", true);
        fit("(1,(1,1))", "(A,(A,A))", true);
        fit("(1,(1,2))", "(A,(A,A))", false);
        DUE.says("a pair pattern fits a pair whose parts fit the parts of it, the left first");
        fit("(1,2)", "(1,2)", true);
        fit("(1,2)", "(2,1)", false);
        fit("(1,2)", "(1,3)", false);
        fit("(1,2)", "(3,2)", false);
        fit("1", "(_,_)", false);
        fit("#", "(_,_)", false);
        fit("(1,2)", "((_,_),_)", false);
        fit("(1,2)", "(_,(_,_))", false);
        String[] patterns = {"((_,_),(_,_))", "(_,(_,(_,_)))", "(_,((_,_),_))", "((_,(_,_)),_)", "(((_,_),_),_)"};
        for (int i = 0; i < FOUR_LEAVES.length; i++) {
            for (int j = 0; j < FOUR_LEAVES.length; j++) {
                fit(FOUR_LEAVES[i], patterns[j], i == j);
            }
            fit(FOUR_LEAVES[i], FOUR_LEAVES[i], true);
            fit(FOUR_LEAVES[i], "(A,B)", true);
            // no TERM is so deep
            fit(FOUR_LEAVES[i], "((((_,_),_),_),_)", false);
            fit(FOUR_LEAVES[i], "(_,(_,(_,(_,_))))", false);
        }
    }
}
