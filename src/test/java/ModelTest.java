import java.util.Map;
import java.util.NoSuchElementException;
import java.util.Random;
import java.util.TreeMap;
import java.util.function.IntSupplier;

/** All promises: long runs of calls, the same each time, must answer as the model does. */
public final class ModelTest {
    private static final int RUNS = 600;
    private static final int CALLS = 512;

    private final Random random;
    private final ActorMachine machine = new ActorMachine();
    private final Model model = new Model();
    private final StringBuilder told = new StringBuilder();
    private static final Map<String, Integer> SEEN = new TreeMap<>();

    private ModelTest(long seed) {
        random = new Random(seed);
    }

    public static void main(String[] args) {
        boolean right = true;
        for (int seed = 0; seed < RUNS && right; seed++) {
            right = new ModelTest(seed).run();
        }
        String[] due = {"check UnsupportedOperationException", "deliver 0", "deliver 1", "deliver 2", "deliver 3",
            "deliver 4", "deliver IllegalStateException", "deliver NoSuchElementException", "fault -2",
            "kill 0", "kill 1", "kill 2", "spawn IllegalStateException", "step 0", "step 1", "step 100",
            "step 201", "step 500", "step ArithmeticException", "step IllegalStateException",
            "step NoSuchElementException", "step UnsupportedOperationException", "type IllegalStateException",
            "type IllegalArgumentException", "send IllegalStateException", "shape 2222", "shape 1233", "shape 3321",
            "shape 122", "about 8"};
        for (String kind : due) {
            if (right && !SEEN.containsKey(kind)) {
                System.out.println("model: the runs never saw " + kind);
                right = false;
            }
        }
        System.out.println("model: " + RUNS + " runs, " + (right ? "all as due" : "not as due"));
        if (!right) {
            System.exit(1);
        }
    }

    private boolean run() {
        for (int program = 0; program < 3; program++) {
            if (!write(program)) {
                return false;
            }
        }
        for (int i = 0; i < CALLS; i++) {
            if (!anyCall() || i % 8 == 0 && !views()) {
                return false;
            }
        }
        return views();
    }

    private boolean same(String call, IntSupplier got, IntSupplier due) {
        String answer = answer(got);
        String want = answer(due);
        told.append(call).append(" -> ").append(want).append('\n');
        SEEN.merge(call.substring(0, call.indexOf('(')) + " " + want, 1, Integer::sum);
        if (!answer.equals(want)) {
            System.out.println(told + "answered " + answer);
            return false;
        }
        return true;
    }

    private static String answer(IntSupplier call) {
        try {
            return Integer.toString(call.getAsInt());
        } catch (IllegalStateException | IllegalArgumentException | NoSuchElementException | ArithmeticException
                | UnsupportedOperationException e) {
            return e.getClass().getSimpleName();
        }
    }

    private boolean views() {
        for (int actor = 0; actor < 6; actor++) {
            for (int what = 0; what < 13; what++) {
                if (!sameView("about", actor, what, machine.about(actor, what), model.about(actor, what))) {
                    return false;
                }
            }
            for (int i = 0; i < 7; i++) {
                if (!sameView("shape", actor, i, machine.shape(actor, i), model.shape(actor, i))) {
                    return false;
                }
                for (int k = 0; k < 4; k++) {
                    if (!sameView("leaf", actor, 10 * i + k, machine.leaf(actor, i, k), model.leaf(actor, i, k))) {
                        return false;
                    }
                }
            }
        }
        return true;
    }

    private boolean sameView(String view, int actor, int of, int got, int due) {
        if (view.equals("shape") || due == 8) {
            SEEN.merge(view + " " + due, 1, Integer::sum);
        }
        if (got != due) {
            System.out.println(told + view + " of " + actor + ", " + of + " answered " + got + ", due is " + due);
        }
        return got == due;
    }

    private boolean anyCall() {
        int n = random.nextInt(100);
        int a = number(6);
        int b = number(6);
        int p = number(3);
        if (n < 1) {
            return write(random.nextInt(3));
        }
        if (n < 2) {
            long signs = random.nextInt(3) == 0 ? random.nextLong() : Due.pack(random.nextBoolean() ? ";" : "");
            return same("type(" + p + "," + signs, () -> machine.type(p, signs), () -> model.type(p, signs));
        }
        if (n < 3) {
            return same("check(" + p, () -> machine.check(p), () -> model.check(p));
        }
        if (n < 8) {
            int state = random.nextInt(20) == 0 ? number(2000) - 1000 : random.nextInt(5);
            return same("spawn(" + p + "," + state, () -> machine.spawn(p, state), () -> model.spawn(p, state));
        }
        if (n < 26) {
            return send(a);
        }
        if (n < 65) {
            int way = random.nextInt(8) == 0 ? 6 * number(7) + b : busyWay();
            int from = Math.floorDiv(way, 6);
            int to = Math.floorMod(way, 6);
            return same("deliver(" + from + "," + to, () -> machine.deliver(from, to), () -> model.deliver(from, to));
        }
        if (n < 95) {
            int actor = random.nextInt(8) == 0 ? a : actorWith(1, 1, 9);
            return same("step(" + actor, () -> machine.step(actor), () -> model.step(actor));
        }
        if (n < 96) {
            int actor = random.nextBoolean() ? a : actorWith(4, 3, 63);
            return same("kill(" + actor, () -> machine.kill(actor), () -> model.kill(actor));
        }
        int actor = random.nextInt(4) == 0 ? a : actorWith(0, 2, 2);
        return same("reap(" + actor, () -> machine.reap(actor), () -> model.reap(actor));
    }

    /** One on which something is under way to an actor that is alive, if that is soon found. */
    private int busyWay() {
        int way = 0;
        for (int i = 0; i < 60; i++) {
            way = random.nextInt(42);
            if (model.about(way % 6, 6 + way / 6) > 0 && (model.about(way % 6, 0) == 1 || i > 40)) {
                return way;
            }
        }
        return way;
    }

    /** An actor of which this is so, if that is soon found. */
    private int actorWith(int what, int least, int most) {
        int actor = 0;
        for (int i = 0; i < 12; i++) {
            actor = random.nextInt(6);
            int is = model.about(actor, what);
            if (is >= least && is <= most) {
                return actor;
            }
        }
        return actor;
    }

    /** Mostly in 0 .. bound - 1, now and then just outside. */
    private int number(int bound) {
        int n = random.nextInt(60);
        return n == 0 ? -1 : n == 1 ? bound : random.nextInt(bound);
    }

    private boolean send(int to) {
        int kind = number(4);
        int x = random.nextInt(15) == 0 ? number(2000) - 1000 : number(5);
        int y = number(random.nextInt(6) == 0 ? 8 : 4);
        return same("send(" + to + "," + kind + "," + x + "," + y, () -> machine.send(to, kind, x, y),
                () -> model.send(to, kind, x, y));
    }

    private boolean write(int program) {
        if (!same("clear(" + program, () -> machine.clear(program), () -> model.clear(program))) {
            return false;
        }
        String text = text();
        told.append("text ").append(text).append('\n');
        for (int i = 0; i < text.length(); i += 8) {
            long signs = Due.pack(text.substring(i, Math.min(text.length(), i + 8)));
            if (!same("type(" + program + "," + signs, () -> machine.type(program, signs),
                    () -> model.type(program, signs))) {
                return false;
            }
        }
        return same("fault(" + program, () -> machine.fault(program), () -> model.fault(program))
                && same("check(" + program, () -> machine.check(program), () -> model.check(program));
    }

    /** Whole clauses as many as fit; in some texts a sign is changed, left out or put in. */
    private String text() {
        StringBuilder text = new StringBuilder();
        for (int i = 0; i < 12; i++) {
            String clause = clause();
            if (text.length() + clause.length() <= 60) {
                text.append(clause);
            }
        }
        if (random.nextInt(4) == 0 && text.length() > 0) {
            int place = random.nextInt(text.length());
            String sign = pick("a", "A", "1", "(", ")", ",", "+", "-", "/", "!", "?", "<", "=", ":", ";", "@", "*", "~",
                    "_", "#", "'", "S", "i", "F", "3", "");
            text.replace(place, place + random.nextInt(2), sign);
        }
        return text.toString();
    }

    private String clause() {
        if (random.nextInt(3) > 0) {
            return pick("(A,B):!A(#,B);", "(A,B):&A!A(B,#);", "(A,1):&A;", "a:*1;", "b:*0;", "c:@0A!A#;", "c:@1A!AS;",
                    "A:@2B!B(A,#);", "d:$a;", "e:$(c,1);", "(g,(A,B)):~(B,A);", "((A,B),C):!#(C,(B,A));", "0:~/S0;",
                    "A?A<S:~A;", "A?S=0:~1;", "A:~/1A;", "a:@0A@1B;", "((A,B),(C,D)):~((D,C),(B,A));", "2:!#((1,S),2);",
                    "(A,B):!A((A,B),(#,S));", "(A,B):!AA!AB!A1!A2;", "(A,B):!AA!AB!A1&A$a;", "(A,_):*1&A;");
        }
        StringBuilder clause = new StringBuilder(pattern(random.nextInt(4)));
        if (random.nextInt(3) == 0) {
            clause.append('?').append(expression(1)).append(pick("<", "=")).append(expression(1));
        }
        clause.append(':');
        for (int i = random.nextInt(4); i > 0; i--) {
            clause.append(action());
        }
        return clause.append(';').toString();
    }

    private String pattern(int depth) {
        if (depth > 0 && random.nextInt(3) > 0) {
            return "(" + pattern(depth - 1) + "," + pattern(depth - 1) + ")";
        }
        return pick("A", "B", "C", "A", "B", "S", "_", "a", "b", "g", "0", "1", "2", "'03");
    }

    private String expression(int depth) {
        int n = random.nextInt(8);
        if (depth > 0 && n < 3) {
            return "(" + expression(depth - 1) + "," + expression(depth - 1) + ")";
        }
        if (depth > 0 && n < 5) {
            return pick("+", "-", "/") + expression(depth - 1) + expression(depth - 1);
        }
        return pick("A", "B", "A", "B", "C", "S", "#", "a", "b", "0", "1", "2", "'98");
    }

    private String action() {
        switch (random.nextInt(10)) {
            case 0:
            case 1:
            case 2:
                return "!" + pick("#", "A", "B", "B", "A", "S") + expression(random.nextInt(4));
            case 3:
            case 4:
                return "~" + expression(random.nextInt(4));
            case 5:
                return "@" + random.nextInt(3) + pick("A", "B", "C", "S");
            case 6:
                return "&" + pick("A", "B", "#", "S");
            case 7:
                return random.nextInt(3) == 0 ? "$" + pick("a", "b", expression(1)) : "&A";
            default:
                return "*" + pick("0", "1", "1");
        }
    }

    private String pick(String... all) {
        return all[random.nextInt(all.length)];
    }
}
