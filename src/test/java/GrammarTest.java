/** Promises 4 and 5: check and fault. */
public final class GrammarTest {
    private static final Due DUE = new Due("promises 4, 5");

    public static void main(String[] args) {
        wholePrograms();
        cutPrograms();
        patterns();
        guards();
        expressions();
        actions();
        open();
        DUE.run("check 3 ! IllegalArgumentException", "check -1 ! IllegalArgumentException",
                "fault 3 ! IllegalArgumentException", "fault -1 ! IllegalArgumentException");
        DUE.run("put 0 a", "check 0 ! UnsupportedOperationException", "spawn 0 0 ! IllegalStateException",
                "put 0 :;", "spawn 0 0 ! IllegalStateException", "check 0 = 1", "spawn 0 0 = 0", "check 0 = 1");
        DUE.close();
    }

    private static void whole(String text, int clauses) {
        DUE.run("put 1 " + text, "fault 1 = -2", "check 1 = " + clauses, "spawn 1 0 = 0", "about 0 5 = " + clauses);
    }

    /** The sign at the place can't stand; all before it can. */
    private static void wrongAt(String text, int place) {
        DUE.run("put 1 " + text, "fault 1 = " + place, "check 1 ! UnsupportedOperationException");
        DUE.run("put 1 " + text + ";", "fault 1 = " + place);
        if (place > 0 && text.charAt(place - 1) != ';') {
            cut(text.substring(0, place));
        }
    }

    private static void cut(String text) {
        DUE.run("put 1 " + text, "fault 1 = " + text.length(), "check 1 ! UnsupportedOperationException");
    }

    private static void wholePrograms() {
        whole("a:;", 1);
        whole("_:;'07:;9:;S:;(A,(_,3)):;", 5);
        whole("A?A<+S'10:!A(#,-A1)~/S2@0B@2S&B*0*1$(a,b);h?(A,b)=#:;", 2);
    }

    private static void cutPrograms() {
        String text = "(A,'12)?+A1=S:!#(a,B)~'99@2C&C$-SS*1;_:;";
        for (int i = 1; i < text.length(); i++) {
            if (i != text.indexOf(';') + 1) {
                cut(text.substring(0, i));
            }
        }
        whole(text, 2);
    }

    private static void patterns() {
        String[] none = {"#", "+", "-", "/", ":", "?", ";", "i", "F", "R", "T", "!", "~", ")", ",", "$", "`", "["};
        for (String sign : none) {
            wrongAt(sign, 0);
            wrongAt("(" + sign, 1);
            wrongAt("(a," + sign, 3);
        }
        wrongAt("a:;" + ",", 3);
        wrongAt("(a:", 2);
        wrongAt("(a)", 2);
        wrongAt("(a,b:", 4);
        wrongAt("(a,b,", 4);
        wrongAt("12", 1);
        wrongAt("ab", 1);
        wrongAt("'a", 1);
        wrongAt("'1:", 2);
        wrongAt("'123", 3);
        wrongAt("a;", 1);
        wrongAt("a=", 1);
    }

    private static void guards() {
        wrongAt("a?_", 2);
        wrongAt("a?:", 2);
        wrongAt("a?1:", 3);
        wrongAt("a?1>", 3);
        wrongAt("a?1<<", 4);
        wrongAt("a?1=:", 4);
        wrongAt("a?1=1?", 5);
        wrongAt("a?1=1;", 5);
        wrongAt("a?12", 3);
        wrongAt("a:?", 2);
    }

    private static void expressions() {
        String[] none = {"_", "*", "i", "F", "T", ":", ";", ")", ",", "!", "<", "="};
        for (String sign : none) {
            wrongAt("a:~" + sign, 3);
            wrongAt("a:~(" + sign, 4);
            wrongAt("a:~(1," + sign, 6);
            wrongAt("a:~+" + sign, 4);
            wrongAt("a:~/1" + sign, 5);
        }
        wrongAt("a:~(1)", 5);
        wrongAt("a:~(1,2,", 7);
        wrongAt("a:~(1,2;", 7);
        wrongAt("a:~-1;", 5);
        wrongAt("a:~'1;", 5);
        whole("a:~-+1/#(A,b)'00;", 1);
    }

    private static void actions() {
        wrongAt("a:!1;", 4);
        wrongAt("a:!;", 3);
        wrongAt("a:@3", 3);
        wrongAt("a:@A", 3);
        wrongAt("a:@0F", 4);
        wrongAt("a:@0a", 4);
        wrongAt("a:@00", 4);
        wrongAt("a:*2", 3);
        wrongAt("a:*A", 3);
        wrongAt("a:&;", 3);
        wrongAt("a:$;", 3);
        wrongAt("a:~;", 3);
        wrongAt("a:a", 2);
        wrongAt("a::", 2);
        wrongAt("a:~12", 4);
        wrongAt("a:;;", 3);
        whole("a:@0A@1B@2S@0C@0D@0E*0*1;", 1);
    }

    private static void open() {
        whole("((((a,b),c),d),e):;", 1);
        whole("(a,(b,(c,(d,e)))):;", 1);
        wrongAt("(((((", 4);
        wrongAt("(a,(b,(c,(d,(", 12);
        whole("((((a,b),c),d),(a,(b,(c,d)))):;", 1);
        wrongAt("((((a,b),c),d),(a,(b,(c,(", 24);
        whole("a:~++++12345;", 1);
        wrongAt("a:~+++++", 7);
        wrongAt("a:~+1-1/1+1-", 11);
        wrongAt("a:~(1,+2(3,/1(", 13);
        // an operator is closed when its second part ends
        whole("a:~+++-1234+++1234;", 1);
        whole("a:~+(/1(2,3),-12)(+1+23,4);", 1);
        wrongAt("a:~+++-1234++++", 14);
        whole("((((_,_),_),_),_)?++++11111=----11111:!////11111++++11111;", 1);
    }
}
