/** The sentences on texts and their rules that name an edge: Terms, and promises 1 to 5. */
public final class EdgeTextTest {
    private static final Due DUE = new Due("edges of texts");
    private static final String SIXTY = "a:;b:;c:;d:;e:;f:;g:;h:;A:;B:;C:;D:;E:;S:;_:;1:;2:;3:;4:;5:;";
    private static final String ILLEGAL_ARGUMENT = " ! IllegalArgumentException";
    private static final String ILLEGAL_STATE = " ! IllegalStateException";
    private static final String NOT_WHOLE = " ! UnsupportedOperationException";

    private static final String SIMPLE = "'0123456789abcdefghABCDES";
    private static final String PATTERN = SIMPLE + "_(";
    private static final String EXPRESSION = SIMPLE + "#(+-/";
    private static final String CLOSED_EXPRESSION = SIMPLE + "#";
    private static final String ACTION = "!~@&$*;";
    private static final String DIGIT = "0123456789";

    public static void main(String[] args) {
        newObject();
        rules();
        open();
        checked();
        type();
        clear();
        check();
        fault();
        DUE.close();
    }

    private static void newObject() {
        DUE.says("PROGRAMS 0 .. 2 have a text of at most 60 signs, codes 33 .. 126 (empty at first), by these rules");
        for (int program = 0; program <= 2; program++) {
            DUE.run("clear " + program + " = 0");
            DUE.run("put " + program + " " + SIXTY, "type " + program + " 33" + ILLEGAL_STATE,
                    "clear " + program + " = 60");
        }
        for (int code = 0; code <= 255; code++) {
            boolean isSign = code >= 33 && code <= 126;
            DUE.run("type 1 " + code + (isSign ? " = 1" : code == 0 ? " = 0" : ILLEGAL_ARGUMENT),
                    "clear 1 = " + (isSign ? 1 : 0));
        }
        DUE.says("`ActorMachine()`: No actors, empty texts.");
        for (int number = 0; number < 6; number++) {
            DUE.run("about " + number + " 0 = FREE", "kill " + number + ILLEGAL_STATE,
                    "reap " + number + ILLEGAL_STATE);
        }
        DUE.run("clear 0 = 0", "clear 1 = 0", "clear 2 = 0");
        DUE.run("fault 0 = -2", "fault 1 = -2", "fault 2 = -2");
    }

    /** Of all signs these alone can stand behind the beginning. */
    private static void stand(String beginning, String signs) {
        for (char sign = 33; sign <= 126; sign++) {
            String text = beginning + sign;
            boolean stands = signs.indexOf(sign) >= 0;
            boolean isWhole = stands && sign == ';';
            int place = isWhole ? -2 : stands ? text.length() : beginning.length();
            DUE.run("put 0 " + text, "fault 0 = " + place,
                    isWhole ? "check 0 = " + clauses(text) : "check 0" + NOT_WHOLE);
        }
    }

    private static int clauses(String whole) {
        return (int) whole.chars().filter(sign -> sign == ';').count();
    }

    private static void rules() {
        DUE.says("program: clauses, maybe none.");
        DUE.run("fault 0 = -2", "check 0 = 0", "spawn 0 0 = 0", "about 0 5 = 0");
        stand("", PATTERN);
        stand("a:;", PATTERN);
        stand("a:;b:~1;", PATTERN);
        DUE.says("clause: a pattern, maybe a guard, ':', actions, maybe none, ';'.");
        stand("a", "?:");
        stand("(a,b)", "?:");
        stand("a:", ACTION);
        stand("a?1=1:", ACTION);
        stand("a:*1", ACTION);
        DUE.says("pattern: a number, an atom, a variable, '_', or '(' pattern ',' pattern ')'.");
        stand("_", "?:");
        stand("E", "?:");
        stand("(", PATTERN);
        stand("(a", ",");
        stand("(a,", PATTERN);
        stand("(a,b", ")");
        stand("((a,b)", ",");
        stand("(a,(b,c)", ")");
        DUE.says("guard: '?', an expression, '<' or '=', an expression.");
        stand("a?", EXPRESSION);
        stand("a?1", "<=");
        stand("a?1<", EXPRESSION);
        stand("a?1=", EXPRESSION);
        stand("a?1<1", ":");
        stand("a?1=1", ":");
        DUE.says("expression: a number, an atom, a variable, '#', '(' expression ',' expression ')', or '+', '-' or "
                + "'/' and two expressions, the left and the right one.");
        stand("a?#", "<=");
        stand("a?(", EXPRESSION);
        stand("a?(1", ",");
        stand("a?(1,", EXPRESSION);
        stand("a?(1,2", ")");
        stand("a?(1,2)", "<=");
        for (String sign : new String[] {"+", "-", "/"}) {
            stand("a?" + sign, EXPRESSION);
            stand("a?" + sign + "1", EXPRESSION);
            stand("a?" + sign + "12", "<=");
        }
        DUE.says("action: '!' expression expression; '~' expression; '@' digit variable; '&' expression; "
                + "'$' expression; '*' digit.");
        stand("a:!", EXPRESSION);
        stand("a:!#", EXPRESSION);
        stand("a:!#1", ACTION);
        for (String sign : new String[] {"~", "&", "$"}) {
            stand("a:" + sign, EXPRESSION);
            stand("a:" + sign + "1", ACTION);
        }
        stand("a:@0", "ABCDES");
        stand("a:@0S", ACTION);
        DUE.says("The digit of '@' is 0 .. 2, that of '*' 0 or 1.");
        stand("a:@", "012");
        stand("a:*", "01");
        DUE.says("number: one digit, or two behind ''' (code 39), as '12 for 12.");
        stand("7", "?:");
        stand("'", DIGIT);
        stand("'0", DIGIT);
        stand("'12", "?:");
        stand("a:~9", ACTION);
        stand("a:~'", DIGIT);
        stand("a:~'9", DIGIT);
        stand("a:~'99", ACTION);
        DUE.run("program 0 '12:~'34;", "spawn 0 0 = 0", "mail 0 0 12 0", "step 0 = 0", "leaf 0 6 0 = 34");
        DUE.says("atom: a .. h.   variable: A .. E, or S.");
        for (char sign = 'A'; sign <= 'z'; sign++) {
            boolean isName = "abcdefghABCDES".indexOf(sign) >= 0;
            if (Character.isLetter(sign)) {
                DUE.run("put 0 " + sign + ":~" + sign + ";", "fault 0 = " + (isName ? -2 : 0));
                DUE.run("put 0 a:~" + sign + ";", "fault 0 = " + (isName ? -2 : 3));
            }
        }
    }

    private static void open() {
        DUE.says("At most 4 of '(', '+', '-', '/' may be open at a place (the last three are till their second part "
                + "ends); a fifth can't stand.");
        stand("(((", PATTERN);
        stand("((((", SIMPLE + "_");
        stand("((((a,", SIMPLE + "_");
        stand("((((a,b),", PATTERN);
        stand("(a,(b,(c,(", SIMPLE + "_");
        stand("a:~+++", EXPRESSION);
        stand("a:~++++", CLOSED_EXPRESSION);
        stand("a:~++++1", CLOSED_EXPRESSION);
        stand("a:~++++12", EXPRESSION);
        stand("a:~++++12+", CLOSED_EXPRESSION);
        stand("a:~+1+2+3", EXPRESSION);
        stand("a:~+1-2/3+4", CLOSED_EXPRESSION);
        stand("a:~+1-2/3+45", ACTION);
        stand("a:~(+1/", EXPRESSION);
        stand("a:~(+1/(", CLOSED_EXPRESSION);
        stand("a:~(+1/(2,", CLOSED_EXPRESSION);
        stand("a:~(+1/(2,3)", EXPRESSION);
        stand("a:~(+1/(2,3)4", ",");
        stand("a:~(+1/(2,3)4,", EXPRESSION);
        // each expression and each pattern begins with none open
        stand("a?+++", EXPRESSION);
        stand("a?++++", CLOSED_EXPRESSION);
        stand("a?++++12345<+++", EXPRESSION);
        stand("a?++++12345<++++", CLOSED_EXPRESSION);
        for (String sign : new String[] {"!", "~", "&", "$"}) {
            stand("a:" + sign + "+++", EXPRESSION);
            stand("a:" + sign + "++++", CLOSED_EXPRESSION);
        }
        stand("a:!++++12345+++", EXPRESSION);
        stand("a:!++++12345++++", CLOSED_EXPRESSION);
        stand("((((a,b),c),d),e)?+++", EXPRESSION);
        stand("a:~++++12345;(((", PATTERN);
        DUE.says("A sign CAN STAND at a place if some text by these rules, that limit of 4 left aside, begins with the "
                + "signs up to it, and it is no fifth.");
        DUE.run("put 0 (((((", "fault 0 = 4");
        DUE.run("put 0 ((((a,b),c),d),e):;(((((", "fault 0 = 23");
        DUE.run("put 0 a:~+++++", "fault 0 = 7");
        DUE.run("put 0 ((((", "fault 0 = 4");
        DUE.run("put 0 a:~++++", "fault 0 = 7");
    }

    private static void checked() {
        DUE.says("A program is CHECKED or not (at first each is); it is not after its text has changed till it is "
                + "checked.");
        DUE.run("spawn 0 0 = 0", "spawn 1 0 = 1", "spawn 2 0 = 2");
        for (int program = 0; program <= 2; program++) {
            int other = (program + 1) % 3;
            DUE.run("put " + program + " a:;", "spawn " + program + " 0" + ILLEGAL_STATE, "check " + other + " = 0",
                    "spawn " + program + " 0" + ILLEGAL_STATE, "spawn " + other + " 0 = 0",
                    "fault " + program + " = -2",
                    "spawn " + program + " 0" + ILLEGAL_STATE, "check " + program + " = 1",
                    "spawn " + program + " 0 = 1",
                    "put " + program + " b:", "spawn " + program + " 0" + ILLEGAL_STATE, "check " + program + NOT_WHOLE,
                    "spawn " + program + " 0" + ILLEGAL_STATE, "put " + program + " ;",
                    "spawn " + program + " 0" + ILLEGAL_STATE, "check " + program + " = 2",
                    "spawn " + program + " 0 = 2");
        }
    }

    private static void type() {
        DUE.says("the bytes of the number from the highest, 0 left out, are put at the text's end");
        DUE.run("type 0 " + Due.pack("(a,b):~1") + " = 8", "fault 0 = 8", "type 0 " + Due.pack(";h:~2;") + " = 14",
                "check 0 = 2", "spawn 0 0 = 0", "mail 0 1 7 0", "step 0 = 1", "leaf 0 6 0 = 2");
        // each of the eight bytes alone, the highest too
        for (int place = 0; place < 8; place++) {
            DUE.run("type 0 " + ((long) 'a' << 8 * place) + " = 1", "type 0 " + ((long) ':' << 56 - 8 * place) + " = 2",
                    "type 0 " + ((long) ';' << 8 * place) + " = 3", "check 0 = 1");
        }
        DUE.run("type 0 " + 0x6100003A0000003BL + " = 3", "fault 0 = -2", "type 0 " + 0x0061003A003B0000L + " = 6",
                "check 0 = 2");
        DUE.run("type 0 0 = 0", "fault 0 = -2", "put 0 a:;", "type 0 0 = 3", "fault 0 = -2");
        DUE.run("type 0 " + 0x7E7E7E7E7E7E7E7EL + " = 8", "type 0 " + 0x2121212121212121L + " = 16", "fault 0 = 0");
        DUE.says("one none of 33 .. 126: IllegalArgumentException.");
        for (int place = 0; place < 8; place++) {
            for (long code : new long[] {1, 10, 32, 127, 128, 161, 254, 255}) {
                long good = 0x6161616161616161L & ~(255L << 8 * place);
                DUE.run("type 2 " + (good | code << 8 * place) + ILLEGAL_ARGUMENT, "type 2 " + (code << 8 * place)
                        + ILLEGAL_ARGUMENT, "spawn 2 0 = 0", "clear 2 = 0");
            }
        }
        DUE.says("More than 60: IllegalStateException.");
        for (int length = 52; length <= 60; length++) {
            String begin = SIXTY.substring(0, length);
            String more = "aaaaaaaa".substring(0, Math.min(8, 61 - length));
            String fits = more.substring(1);
            DUE.run("put 0 " + begin,
                    "type 0 " + Due.pack(more) + (length + more.length() > 60 ? ILLEGAL_STATE : " = 60"),
                    "clear 0 = " + (length + more.length() > 60 ? length : 60));
            DUE.run("put 0 " + begin, "type 0 " + Due.pack(fits) + " = " + (length + fits.length()));
        }
        // zero bytes count for nothing there
        DUE.run("put 0 " + SIXTY.substring(0, 59), "type 0 " + ((long) ';' << 56) + " = 60", "type 0 0 = 60",
                "type 0 " + ((long) ';' << 56) + ILLEGAL_STATE, "check 0 = 20");
        DUE.says("Answers the length.");
        DUE.run("type 0 0 = 0", "type 0 97 = 1", "type 0 0 = 1", "type 1 0 = 0",
                "type 1 " + Due.pack("aaaaaaaa") + " = 8", "type 0 97 = 2");
        DUE.says("The program is not CHECKED (also if none is put).");
        DUE.run("type 0 0 = 0", "spawn 0 0" + ILLEGAL_STATE, "spawn 1 0 = 0", "check 0 = 0", "spawn 0 0 = 1",
                "type 0 0 = 0", "spawn 0 0" + ILLEGAL_STATE);
        DUE.run("program 0 a:;", "type 0 0 = 3", "spawn 0 0" + ILLEGAL_STATE, "fault 0 = -2", "check 0 = 1",
                "spawn 0 0 = 0");
    }

    private static void clear() {
        DUE.says("The text of program 0 .. 2 is empty, and it is CHECKED.");
        for (int program = 0; program <= 2; program++) {
            DUE.run("put " + program + " ))", "clear " + program + " = 2", "fault " + program + " = -2",
                    "spawn " + program + " 0 = 0", "about 0 5 = 0", "type " + program + " " + Due.pack("a:;") + " = 3",
                    "fault " + program + " = -2");
        }
        DUE.run("type 0 0 = 0", "clear 0 = 0", "spawn 0 0 = 0");
        DUE.run("put 0 a", "put 1 b", "clear 0 = 1", "spawn 1 0" + ILLEGAL_STATE, "clear 1 = 1");
        DUE.says("Answers how long it was.");
        DUE.run("clear 0 = 0", "put 0 " + SIXTY, "clear 0 = 60", "clear 0 = 0", "put 0 a", "clear 0 = 1");
    }

    private static void check() {
        DUE.says("a sign can't stand, or the text is no whole program: UnsupportedOperationException.");
        DUE.run("put 0 !", "check 0" + NOT_WHOLE, "check 0" + NOT_WHOLE);
        DUE.run("put 0 a", "check 0" + NOT_WHOLE, "put 0 :", "check 0" + NOT_WHOLE, "put 0 ;", "check 0 = 1");
        DUE.run("put 0 a:;b", "check 0" + NOT_WHOLE);
        DUE.run("put 0 a:;;", "check 0" + NOT_WHOLE);
        DUE.run("put 0 (((((a,b),c),d),e),f):;", "check 0" + NOT_WHOLE);
        DUE.run("put 0 " + SIXTY.substring(0, 59), "check 0" + NOT_WHOLE, "put 0 ;", "check 0 = 20");
        DUE.says("Else it is CHECKED; answers the number of its clauses.");
        DUE.run("check 0 = 0", "check 1 = 0", "check 2 = 0");
        for (int clauses = 0; clauses <= 20; clauses++) {
            String text = SIXTY.substring(0, 3 * clauses);
            DUE.run("type 0 0 = 0", clauses == 0 ? "clear 1 = 0" : "put 0 " + text, "spawn 0 0" + ILLEGAL_STATE,
                    "check 0 = " + clauses, "check 0 = " + clauses, "spawn 0 0 = 0", "about 0 5 = " + clauses);
        }
    }

    private static void fault() {
        DUE.says("The place of the first sign of the text that can't stand; its length if all can but it is no whole "
                + "program; -2 if it is one.");
        DUE.run("fault 0 = -2", "type 0 0 = 0", "fault 0 = -2");
        DUE.run("put 0 ;a:;", "fault 0 = 0");
        DUE.run("put 0 a:;;;", "fault 0 = 3");
        DUE.run("put 0 " + SIXTY.substring(0, 59) + "i", "fault 0 = 59");
        DUE.run("put 0 " + SIXTY.substring(0, 59), "fault 0 = 59", "put 0 ;", "fault 0 = -2");
        DUE.run("put 0 " + SIXTY.substring(0, 57) + "a:~", "fault 0 = 60");
        DUE.run("put 0 i" + SIXTY.substring(0, 59), "fault 0 = 0");
        DUE.run("program 0 a:;", "put 0 b", "fault 0 = 4", "spawn 0 0" + ILLEGAL_STATE);
    }
}
