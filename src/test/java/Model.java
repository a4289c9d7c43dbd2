import java.util.ArrayList;
import java.util.HashMap;
import java.util.HashSet;
import java.util.LinkedHashSet;
import java.util.List;
import java.util.Map;
import java.util.NoSuchElementException;
import java.util.Set;
import java.util.TreeSet;

/**
 * The document told a second time, by other means: terms and programs as trees, lists for all that has an
 * order, and the rules of the text as productions for a general (Earley) recogniser.
 */
final class Model {
    interface Term {
    }

    /** The code is as in the answer of leaf. */
    record Leaf(int code) implements Term {
    }

    record Pair(Term left, Term right) implements Term {
    }

    /** A message, or a signal with its reason. */
    record Thing(boolean signal, Term term) {
    }

    /** A sign with its parts; a number or a leaf has its term. */
    record Node(char sign, Term term, List<Node> parts) {
    }

    record Clause(Node pattern, char relation, Node left, Node right, List<Node> actions) {
    }

    static final class Trouble extends Exception {
        private static final long serialVersionUID = 1;
        final boolean division;

        Trouble(boolean division) {
            this.division = division;
        }
    }

    static final class Actor {
        int status = 0;
        List<Clause> clauses = List.of();
        Term state;
        List<Term> mailbox = new ArrayList<>();
        boolean trapping;
        Term reason;
        Set<Integer> links = new TreeSet<>();
    }

    private final String[] texts = {"", "", ""};
    private final boolean[] checked = {true, true, true};
    private final Actor[] actors = new Actor[6];
    private final Map<List<Integer>, List<Thing>> ways = new HashMap<>();

    Model() {
        for (int i = 0; i < 6; i++) {
            actors[i] = new Actor();
        }
        for (int from = 0; from <= 6; from++) {
            for (int to = 0; to < 6; to++) {
                ways.put(List.of(from, to), new ArrayList<>());
            }
        }
    }

    // ---- the calls ----

    int type(int program, long signs) {
        range(program, 0, 2);
        StringBuilder more = new StringBuilder();
        for (byte code : java.nio.ByteBuffer.allocate(8).putLong(signs).array()) {
            if (code != 0) {
                range(code, 33, 126);
                more.append((char) code);
            }
        }
        if (texts[program].length() + more.length() > 60) {
            throw new IllegalStateException();
        }
        texts[program] += more;
        checked[program] = false;
        return texts[program].length();
    }

    int clear(int program) {
        range(program, 0, 2);
        int length = texts[program].length();
        texts[program] = "";
        checked[program] = true;
        return length;
    }

    int check(int program) {
        if (fault(program) != -2) {
            throw new UnsupportedOperationException();
        }
        checked[program] = true;
        return new Parser(texts[program]).program().size();
    }

    int fault(int program) {
        range(program, 0, 2);
        return Rules.fault(texts[program]);
    }

    int spawn(int program, int state) {
        range(program, 0, 2);
        range(state, -999, 999);
        int made = make(program, state);
        if (made < 0) {
            throw new IllegalStateException();
        }
        return made;
    }

    int send(int to, int kind, int x, int y) {
        range(to, 0, 5);
        range(kind, 0, 3);
        Term message;
        if (kind == 1) {
            range(x, 0, 7);
            message = new Leaf(2000 + x);
        } else {
            range(x, -999, 999);
            message = new Leaf(x);
        }
        if (kind == 2) {
            range(y, 0, 7);
            message = new Pair(new Leaf(2000 + y), message);
        }
        if (kind == 3) {
            range(y, 0, 5);
            message = new Pair(new Leaf(3000 + y), message);
        }
        List<Thing> way = way(6, to);
        if (way.size() >= 4) {
            throw new IllegalStateException();
        }
        way.add(new Thing(false, message));
        return way.size();
    }

    int deliver(int from, int to) {
        range(from, 0, 6);
        range(to, 0, 5);
        List<Thing> way = way(from, to);
        if (way.isEmpty()) {
            throw new NoSuchElementException();
        }
        Thing thing = way.get(0);
        Actor receiver = actors[to];
        if (receiver.status != 1) {
            way.remove(0);
            return 0;
        }
        if (!thing.signal() || receiver.trapping) {
            if (receiver.mailbox.size() == 6) {
                throw new IllegalStateException();
            }
            way.remove(0);
            receiver.mailbox.add(!thing.signal() ? thing.term()
                    : new Pair(new Leaf(2006), new Pair(new Leaf(3000 + from), thing.term())));
            return thing.signal() ? 2 : 1;
        }
        way.remove(0);
        if (thing.term().equals(new Leaf(2000))) {
            return 3;
        }
        end(to, thing.term());
        return 4;
    }

    int step(int number) {
        alive(number);
        Actor actor = actors[number];
        for (int i = 0; i < actor.mailbox.size(); i++) {
            for (int c = 0; c < actor.clauses.size(); c++) {
                Clause clause = actor.clauses.get(c);
                Map<Character, Term> values = new HashMap<>();
                values.put('S', actor.state);
                if (fits(clause.pattern(), actor.mailbox.get(i), values) && holds(clause, values, number)) {
                    actor.mailbox.remove(i);
                    act(clause, values, number);
                    return c + 100 * i;
                }
            }
        }
        throw new NoSuchElementException();
    }

    int kill(int number) {
        alive(number);
        int linked = actors[number].links.size();
        end(number, new Leaf(2007));
        return linked;
    }

    int reap(int number) {
        range(number, 0, 5);
        if (actors[number].status != 2) {
            throw new IllegalStateException();
        }
        actors[number] = new Actor();
        int free = 0;
        for (Actor actor : actors) {
            free += actor.status == 0 ? 1 : 0;
        }
        return free;
    }

    int leaf(int number, int i, int k) {
        range(number, 0, 5);
        range(i, 0, 6);
        range(k, 0, 3);
        List<int[]> leaves = leaves(term(number, i));
        return k < leaves.size() ? leaves.get(k)[0] : -5000;
    }

    int shape(int number, int i) {
        range(number, 0, 5);
        range(i, 0, 6);
        StringBuilder digits = new StringBuilder();
        for (int[] leaf : leaves(term(number, i))) {
            digits.append(leaf[1]);
        }
        return digits.length() == 0 ? -5000 : Integer.parseInt(digits.toString());
    }

    int about(int number, int what) {
        range(number, 0, 5);
        range(what, 0, 12);
        Actor actor = actors[number];
        if (what >= 6) {
            return way(what - 6, number).size();
        }
        int links = 0;
        for (int other : actor.links) {
            links += Math.round(Math.pow(2, other));
        }
        int reason = actor.status == 2 ? ((Leaf) actor.reason).code() : -5000;
        int clauses = actor.status == 1 ? actor.clauses.size() : -5000;
        return new int[] {actor.status, actor.mailbox.size(), actor.trapping ? 1 : 0, reason, links, clauses}[what];
    }

    // ---- what they share ----

    private static void range(int number, int least, int most) {
        if (number < least || number > most) {
            throw new IllegalArgumentException();
        }
    }

    private void alive(int number) {
        range(number, 0, 5);
        if (actors[number].status != 1) {
            throw new IllegalStateException();
        }
    }

    private List<Thing> way(int from, int to) {
        return ways.get(List.of(from, to));
    }

    private Term term(int number, int i) {
        Actor actor = actors[number];
        return i == 6 ? actor.state : i < actor.mailbox.size() ? actor.mailbox.get(i) : null;
    }

    /** Code and depth of each leaf. */
    private static List<int[]> leaves(Term term) {
        List<int[]> all = new ArrayList<>();
        if (term instanceof Leaf leaf) {
            all.add(new int[] {leaf.code(), 0});
        }
        if (term instanceof Pair pair) {
            all.addAll(leaves(pair.left()));
            all.addAll(leaves(pair.right()));
            all.forEach(leaf -> leaf[1]++);
        }
        return all;
    }

    private int make(int program, int state) {
        for (int i = 0; i < 6 && checked[program]; i++) {
            if (actors[i].status == 0) {
                actors[i].status = 1;
                actors[i].clauses = new Parser(texts[program]).program();
                actors[i].state = new Leaf(state);
                return i;
            }
        }
        return -1;
    }

    private void end(int number, Term reason) {
        Actor ended = new Actor();
        ended.status = 2;
        ended.reason = reason;
        for (int other : actors[number].links) {
            if (way(number, other).size() < 8) {
                way(number, other).add(new Thing(true, reason));
            }
            actors[other].links.remove(number);
        }
        actors[number] = ended;
    }

    private boolean fits(Node pattern, Term term, Map<Character, Term> values) {
        if (pattern.sign() == '_') {
            return true;
        }
        if (pattern.sign() == '(') {
            return term instanceof Pair pair && fits(pattern.parts().get(0), pair.left(), values)
                    && fits(pattern.parts().get(1), pair.right(), values);
        }
        if (pattern.term() != null) {
            return pattern.term().equals(term);
        }
        values.putIfAbsent(pattern.sign(), term);
        return values.get(pattern.sign()).equals(term);
    }

    private boolean holds(Clause clause, Map<Character, Term> values, int self) {
        if (clause.left() == null) {
            return true;
        }
        try {
            Term left = value(clause.left(), values, self);
            Term right = value(clause.right(), values, self);
            if (clause.relation() == '=') {
                return left.equals(right);
            }
            return isInt(left) && isInt(right) && ((Leaf) left).code() < ((Leaf) right).code();
        } catch (Trouble trouble) {
            return false;
        }
    }

    private static boolean isInt(Term term) {
        return term instanceof Leaf leaf && leaf.code() < 2000;
    }

    private static Term value(Node node, Map<Character, Term> values, int self) throws Trouble {
        if (node.sign() == '#') {
            return new Leaf(3000 + self);
        }
        if (node.term() != null) {
            return node.term();
        }
        if (node.parts().isEmpty()) {
            return orTrouble(values.get(node.sign()));
        }
        Term left = value(node.parts().get(0), values, self);
        Term right = value(node.parts().get(1), values, self);
        if (node.sign() == '(') {
            Term pair = new Pair(left, right);
            return orTrouble(leaves(pair).size() > 4 ? null : pair);
        }
        if (!isInt(left) || !isInt(right)) {
            throw new Trouble(false);
        }
        int x = ((Leaf) left).code();
        int y = ((Leaf) right).code();
        if (node.sign() == '/' && y == 0) {
            throw new Trouble(true);
        }
        int result = switch (node.sign()) {
            case '+' -> x + y;
            case '-' -> x - y;
            default -> (int) ((double) x / y);
        };
        return orTrouble(result < -999 || result > 999 ? null : new Leaf(result));
    }

    private static Term orTrouble(Term term) throws Trouble {
        if (term == null) {
            throw new Trouble(false);
        }
        return term;
    }

    private static int actorOf(Term term) throws Trouble {
        if (term instanceof Leaf leaf && leaf.code() >= 3000) {
            return leaf.code() - 3000;
        }
        throw new Trouble(false);
    }

    private void act(Clause clause, Map<Character, Term> values, int self) {
        Term[] state = {actors[self].state};
        try {
            for (Node action : clause.actions()) {
                if (!act(action, values, self, state)) {
                    return;
                }
            }
            actors[self].state = state[0];
        } catch (Trouble trouble) {
            end(self, new Leaf(trouble.division ? 2003 : 2005));
            if (trouble.division) {
                throw new ArithmeticException();
            }
            throw new UnsupportedOperationException();
        }
    }

    /** False if the actor has ended. */
    private boolean act(Node action, Map<Character, Term> values, int self, Term[] state) throws Trouble {
        List<Term> given = new ArrayList<>();
        if ("!~&$".indexOf(action.sign()) >= 0) {
            for (Node part : action.parts()) {
                given.add(value(part, values, self));
            }
        }
        switch (action.sign()) {
            case '!' -> {
                List<Thing> way = way(self, actorOf(given.get(0)));
                orTrouble(way.size() >= 4 ? null : given.get(1));
                way.add(new Thing(false, given.get(1)));
            }
            case '~' -> state[0] = given.get(0);
            case '@' -> {
                int made = make(((Leaf) action.term()).code(), 0);
                values.put(action.parts().get(0).sign(), orTrouble(made < 0 ? null : new Leaf(3000 + made)));
                link(self, made);
            }
            case '&' -> link(self, actorOf(given.get(0)));
            case '$' -> {
                end(self, new Leaf(leaves(given.get(0)).get(0)[0]));
                return false;
            }
            default -> actors[self].trapping = action.term().equals(new Leaf(1));
        }
        return true;
    }

    private void link(int one, int other) {
        if (one != other && actors[other].status == 1) {
            actors[one].links.add(other);
            actors[other].links.add(one);
        }
    }

    /** Makes trees of a text that is known to be whole. */
    private static final class Parser {
        private final String text;
        private int at;

        Parser(String text) {
            this.text = text;
        }

        List<Clause> program() {
            List<Clause> clauses = new ArrayList<>();
            while (at < text.length()) {
                Node pattern = node();
                char relation = 0;
                Node left = null;
                Node right = null;
                if (text.charAt(at) == '?') {
                    at++;
                    left = node();
                    relation = text.charAt(at++);
                    right = node();
                }
                at++;
                List<Node> actions = new ArrayList<>();
                while (text.charAt(at) != ';') {
                    actions.add(action());
                }
                at++;
                clauses.add(new Clause(pattern, relation, left, right, actions));
            }
            return clauses;
        }

        private Node action() {
            char sign = text.charAt(at++);
            return switch (sign) {
                case '!' -> new Node(sign, null, List.of(node(), node()));
                case '@' -> new Node(sign, node().term(), List.of(node()));
                case '*' -> new Node(sign, node().term(), List.of());
                default -> new Node(sign, null, List.of(node()));
            };
        }

        private Node node() {
            char sign = text.charAt(at++);
            if (sign == '(') {
                Node left = node();
                at++;
                Node right = node();
                at++;
                return new Node(sign, null, List.of(left, right));
            }
            if ("+-/".indexOf(sign) >= 0) {
                return new Node(sign, null, List.of(node(), node()));
            }
            if (sign == '\'') {
                at += 2;
                return new Node(sign, new Leaf(Integer.parseInt(text.substring(at - 2, at))), List.of());
            }
            if (Character.isDigit(sign)) {
                return new Node(sign, new Leaf(sign - '0'), List.of());
            }
            Term atom = Character.isLowerCase(sign) ? new Leaf(2000 + sign - 'a') : null;
            return new Node(sign, atom, List.of());
        }
    }

    /** The document's rules as productions; names of rules are letters in <>, all else are signs. */
    private static final class Rules {
        private static final Map<String, List<List<String>>> OF = new HashMap<>();

        static {
            rule("program", "", "<clause><program>");
            rule("clause", "<pattern><guard>:<actions>;");
            rule("guard", "", "?<expression><less><expression>");
            rule("less", "<", "=");
            rule("pattern", "<number>", "<atom>", "<variable>", "_", "(<pattern>,<pattern>)");
            rule("expression", "<number>", "<atom>", "<variable>", "#", "(<expression>,<expression>)",
                    "+<expression><expression>", "-<expression><expression>", "/<expression><expression>");
            rule("actions", "", "<action><actions>");
            rule("action", "!<expression><expression>", "~<expression>", "@<program number><variable>",
                    "&<expression>", "$<expression>", "*<trap>");
            rule("program number", "0", "1", "2");
            rule("trap", "0", "1");
            rule("number", "<digit>", "'<digit><digit>");
            rule("digit", "0", "1", "2", "3", "4", "5", "6", "7", "8", "9");
            rule("atom", "a", "b", "c", "d", "e", "f", "g", "h");
            rule("variable", "A", "B", "C", "D", "E", "S");
        }

        record Item(String rule, List<String> right, int dot, int origin) {
            boolean done() {
                return dot == right.size();
            }

            Item moved() {
                return new Item(rule, right, dot + 1, origin);
            }
        }

        private static void rule(String name, String... rights) {
            List<List<String>> all = new ArrayList<>();
            for (String right : rights) {
                List<String> parts = new ArrayList<>();
                for (int i = 0; i < right.length(); i++) {
                    int close = right.indexOf('>', i);
                    boolean named = right.charAt(i) == '<' && close > 0;
                    parts.add(named ? right.substring(i + 1, close) : "'" + right.charAt(i));
                    i = named ? close : i;
                }
                all.add(parts);
            }
            OF.put(name, all);
        }

        static int fault(String text) {
            List<Set<Item>> sets = new ArrayList<>();
            sets.add(new LinkedHashSet<>());
            OF.get("program").forEach(right -> sets.get(0).add(new Item("program", right, 0, 0)));
            close(sets);
            for (int i = 0; i < text.length(); i++) {
                Set<Item> next = new LinkedHashSet<>();
                for (Item item : sets.get(i)) {
                    if (!item.done() && item.right().get(item.dot()).equals("'" + text.charAt(i))) {
                        next.add(item.moved());
                    }
                }
                if (next.isEmpty() || openAfter(text.substring(0, i + 1)) > 4 && opens(text.charAt(i))) {
                    return i;
                }
                sets.add(next);
                close(sets);
            }
            for (Item item : sets.get(text.length())) {
                if (item.done() && item.origin() == 0 && item.rule().equals("program")) {
                    return -2;
                }
            }
            return text.length();
        }

        private static void close(List<Set<Item>> sets) {
            int last = sets.size() - 1;
            Set<Item> set = sets.get(last);
            int before;
            do {
                before = set.size();
                Set<Item> more = new HashSet<>();
                for (Item item : set) {
                    if (item.done()) {
                        for (Item waiting : sets.get(item.origin())) {
                            if (!waiting.done() && waiting.right().get(waiting.dot()).equals(item.rule())) {
                                more.add(waiting.moved());
                            }
                        }
                    } else {
                        String wanted = item.right().get(item.dot());
                        OF.getOrDefault(wanted, List.of())
                                .forEach(right -> more.add(new Item(wanted, right, 0, last)));
                    }
                }
                set.addAll(more);
            } while (set.size() > before);
        }

        private static boolean opens(char sign) {
            return "(+-/".indexOf(sign) >= 0;
        }

        /** How many are open behind a text whose signs can all stand: the parts that each still waits for. */
        private static int openAfter(String text) {
            List<Integer> waits = new ArrayList<>();
            String marks = text.replaceAll("'[0-9][0-9]", "1").replaceAll("[@*][0-9]", "");
            for (char sign : marks.toCharArray()) {
                if (opens(sign)) {
                    waits.add(sign == '(' ? 100 : 2);
                } else if (sign == ')') {
                    waits.remove(waits.size() - 1);
                    ended(waits);
                } else if (Character.isLetterOrDigit(sign) || sign == '_' || sign == '#') {
                    ended(waits);
                }
            }
            return waits.size();
        }

        private static void ended(List<Integer> waits) {
            while (!waits.isEmpty() && waits.get(waits.size() - 1) < 100) {
                int left = waits.remove(waits.size() - 1) - 1;
                if (left > 0) {
                    waits.add(left);
                    return;
                }
            }
        }
    }
}
