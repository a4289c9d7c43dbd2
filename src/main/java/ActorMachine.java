import java.util.NoSuchElementException;

/** Actors with mailboxes and selective receiving, run call by call. */
public final class ActorMachine {
    public static final int FREE = 0;
    public static final int ALIVE = 1;
    public static final int ENDED = 2;
    public static final int NONE = -5000;

    private static final int PROGRAMS = 3;
    private static final int ACTORS = 6;
    private static final int OUTSIDE = 6;
    private static final int ATOMS = 8;
    private static final int GREATEST = 999;

    private static final int FIRST_SIGN = 33;
    private static final int LAST_SIGN = 126;
    private static final int BYTES = 8;

    private static final int MAX_SIGNS = 60;
    private static final int MAX_OPEN = 4;
    private static final int MAX_LEAVES = 4;
    private static final int MAX_MAIL = 6;
    private static final int MAX_SENT = 4;
    private static final int MAX_UNDER_WAY = 8;

    private static final int FIRST_ATOM = 2000;
    private static final int FIRST_ACTOR = 3000;
    private static final int ATOM_A = FIRST_ATOM;
    private static final int ATOM_D = FIRST_ATOM + 3;
    private static final int ATOM_F = FIRST_ATOM + 5;
    private static final int ATOM_G = FIRST_ATOM + 6;
    private static final int ATOM_H = FIRST_ATOM + 7;

    private final World world;
    private final Grammar grammar;
    private final Stepper stepper;

    public ActorMachine() {
        world = new World();
        grammar = new Grammar();
        stepper = new Stepper(world);
    }

    public int type(int program, long signs) throws IllegalStateException, IllegalArgumentException {
        needRange(program, 0, PROGRAMS - 1);
        int more = countSigns(signs);
        needRange(more, 0, BYTES);
        Text text = world.programs[program];
        if (text.length + more > MAX_SIGNS) {
            throw new IllegalStateException("the text would be longer than 60 signs");
        }
        for (int i = 0; i < BYTES; i++) {
            int code = byteAt(signs, i);
            if (code != 0) {
                text.append((char) code);
            }
        }
        world.checked[program] = false;
        return text.length;
    }

    public int clear(int program) throws IllegalArgumentException {
        needRange(program, 0, PROGRAMS - 1);
        Text text = world.programs[program];
        int length = text.length;
        text.length = 0;
        world.checked[program] = true;
        return length;
    }

    public int check(int program) throws IllegalArgumentException, UnsupportedOperationException {
        needRange(program, 0, PROGRAMS - 1);
        Text text = world.programs[program];
        if (grammar.placeOfFault(text) != Grammar.WHOLE) {
            throw new UnsupportedOperationException("the text is no whole program");
        }
        world.checked[program] = true;
        return text.countClauses();
    }

    public int fault(int program) throws IllegalArgumentException {
        needRange(program, 0, PROGRAMS - 1);
        return grammar.placeOfFault(world.programs[program]);
    }

    public int spawn(int program, int state) throws IllegalStateException, IllegalArgumentException {
        needRange(program, 0, PROGRAMS - 1);
        needRange(state, -GREATEST, GREATEST);
        int made = world.make(program, Term.ofLeaf(state));
        if (made < 0) {
            throw new IllegalStateException("the program is not checked or no actor is free");
        }
        return made;
    }

    public int send(int to, int kind, int x, int y) throws IllegalStateException, IllegalArgumentException {
        needRange(to, 0, ACTORS - 1);
        needRange(kind, 0, 3);
        needRange(x, kind == 1 ? 0 : -GREATEST, kind == 1 ? ATOMS - 1 : GREATEST);
        if (kind >= 2) {
            needRange(y, 0, kind == 2 ? ATOMS - 1 : ACTORS - 1);
        }
        Row way = world.way(OUTSIDE, to);
        if (way.count >= MAX_SENT) {
            throw new IllegalStateException("four are under way already");
        }
        way.put(outsideMessage(kind, x, y));
        return way.count;
    }

    public int deliver(int from, int to)
            throws IllegalStateException, IllegalArgumentException, NoSuchElementException {
        needRange(from, 0, OUTSIDE);
        needRange(to, 0, ACTORS - 1);
        Row way = world.way(from, to);
        if (way.count == 0) {
            throw new NoSuchElementException("nothing is under way there");
        }
        long thing = way.at(0);
        Actor receiver = world.actors[to];
        boolean goesToMailbox = receiver.status == ALIVE && (receiver.trapping || !Term.isSignal(thing));
        if (goesToMailbox && receiver.mailbox.count >= MAX_MAIL) {
            throw new IllegalStateException("the mailbox is full");
        }
        way.take(0);
        if (receiver.status != ALIVE) {
            return 0;
        }
        if (Term.isSignal(thing)) {
            return receiveSignal(from, to, Term.leafAt(thing, 0));
        }
        receiver.mailbox.put(thing);
        return 1;
    }

    public int step(int actor) throws IllegalStateException, IllegalArgumentException,
            NoSuchElementException, ArithmeticException, UnsupportedOperationException {
        needAlive(actor);
        int found = stepper.find(actor);
        if (found < 0) {
            throw new NoSuchElementException("no message fits a clause");
        }
        int trouble = stepper.perform(found / Stepper.PER_MESSAGE);
        if (trouble == Evaluator.FAULT) {
            throw new UnsupportedOperationException("the actor ended by a fault");
        }
        if (trouble == Evaluator.DIVISION) {
            throw new ArithmeticException("the actor ended by a division by 0");
        }
        return found;
    }

    public int kill(int actor) throws IllegalStateException, IllegalArgumentException {
        needAlive(actor);
        int linked = Integer.bitCount(world.actors[actor].links);
        world.end(actor, ATOM_H);
        return linked;
    }

    public int reap(int actor) throws IllegalStateException, IllegalArgumentException {
        needRange(actor, 0, ACTORS - 1);
        if (world.actors[actor].status != ENDED) {
            throw new IllegalStateException("the actor is not ended");
        }
        world.actors[actor].status = FREE;
        return world.countFree();
    }

    public int leaf(int actor, int i, int k) throws IllegalArgumentException {
        needRange(k, 0, MAX_LEAVES - 1);
        return Term.leafAt(termOf(actor, i), k);
    }

    public int shape(int actor, int i) throws IllegalArgumentException {
        long term = termOf(actor, i);
        return term == Term.MISSING ? NONE : Term.shapeOf(term);
    }

    public int about(int actor, int what) throws IllegalArgumentException {
        needRange(actor, 0, ACTORS - 1);
        needRange(what, 0, 6 + OUTSIDE);
        Actor asked = world.actors[actor];
        switch (what) {
            case 0:
                return asked.status;
            case 1:
                return asked.mailbox.count;
            case 2:
                return asked.trapping ? 1 : 0;
            case 3:
                return asked.status == ENDED ? asked.reason : NONE;
            case 4:
                return asked.links;
            case 5:
                return asked.status == ALIVE ? asked.text.countClauses() : NONE;
            default:
                return world.way(what - 6, actor).count;
        }
    }

    private static void needRange(int number, int least, int most) {
        if (number < least || number > most) {
            throw new IllegalArgumentException("a number is out of range");
        }
    }

    private void needAlive(int actor) {
        needRange(actor, 0, ACTORS - 1);
        if (world.actors[actor].status != ALIVE) {
            throw new IllegalStateException("the actor is not alive");
        }
    }

    /** How many signs the bytes hold; -1 if one of them is no sign. */
    private static int countSigns(long signs) {
        int count = 0;
        for (int i = 0; i < BYTES; i++) {
            int code = byteAt(signs, i);
            if (code != 0 && (code < FIRST_SIGN || code > LAST_SIGN)) {
                return -1;
            }
            count += code == 0 ? 0 : 1;
        }
        return count;
    }

    private static int byteAt(long signs, int i) {
        return (int) (signs >>> 8 * (BYTES - 1 - i)) & 255;
    }

    private static long outsideMessage(int kind, int x, int y) {
        switch (kind) {
            case 0:
                return Term.ofLeaf(x);
            case 1:
                return Term.ofLeaf(FIRST_ATOM + x);
            case 2:
                return Term.pair(Term.ofLeaf(FIRST_ATOM + y), Term.ofLeaf(x));
            default:
                return Term.pair(Term.ofLeaf(FIRST_ACTOR + y), Term.ofLeaf(x));
        }
    }

    private int receiveSignal(int from, int to, int reason) {
        Actor receiver = world.actors[to];
        if (receiver.trapping) {
            long ending = Term.pair(Term.ofLeaf(FIRST_ACTOR + from), Term.ofLeaf(reason));
            receiver.mailbox.put(Term.pair(Term.ofLeaf(ATOM_G), ending));
            return 2;
        }
        if (reason == ATOM_A) {
            return 3;
        }
        world.end(to, reason);
        return 4;
    }

    private long termOf(int actor, int i) {
        needRange(actor, 0, ACTORS - 1);
        needRange(i, 0, MAX_MAIL);
        Actor asked = world.actors[actor];
        return i == MAX_MAIL ? asked.state : asked.mailbox.at(i);
    }

    /**
     * TERMS as numbers, so that no call makes an object and the same TERMS are equal numbers.
     * Leaf k stands in the k-th 12 bits as in the answer of leaf plus 1000 (0: there is none),
     * the answer of shape stands in the 12 bits above the four leaves; a SIGNAL is its REASON
     * with one bit more.
     */
    private static final class Term {
        static final long MISSING = 0;
        static final int LEAF_BITS = 12;
        static final int FIELD = (1 << LEAF_BITS) - 1;
        static final int SHAPE_PLACE = LEAF_BITS * MAX_LEAVES;
        static final long LEAVES = (1L << SHAPE_PLACE) - 1;
        static final long SIGNAL = 1L << 62;
        static final int LIFT = 1000;
        static final int[] TENS = {1, 10, 100, 1000, 10000};
        /** What puts one more pair around each of so many leaves. */
        static final int[] DEEPER = {0, 1, 11, 111, 1111};

        static long ofLeaf(int value) {
            return value + LIFT;
        }

        static long signal(int reason) {
            return SIGNAL | ofLeaf(reason);
        }

        static boolean isSignal(long thing) {
            return (thing & SIGNAL) != 0;
        }

        static int leafAt(long term, int k) {
            int field = (int) (term >>> k * LEAF_BITS) & FIELD;
            return field == 0 ? NONE : field - LIFT;
        }

        static int shapeOf(long term) {
            return (int) (term >>> SHAPE_PLACE) & FIELD;
        }

        static boolean isPair(long term) {
            return term > FIELD;
        }

        static boolean isInt(long term) {
            return term <= LIFT + GREATEST;
        }

        static boolean isActor(long term) {
            return term >= LIFT + FIRST_ACTOR && term < LIFT + FIRST_ACTOR + ACTORS;
        }

        static int countLeaves(long term) {
            int count = 0;
            for (int k = 0; k < MAX_LEAVES; k++) {
                count += (term >>> k * LEAF_BITS & FIELD) == 0 ? 0 : 1;
            }
            return count;
        }

        static long build(long leaves, int shapeDigits) {
            return leaves | (long) shapeDigits << SHAPE_PLACE;
        }

        /** MISSING if the pair would have too many leaves. */
        static long pair(long left, long right) {
            int lefts = countLeaves(left);
            int rights = countLeaves(right);
            if (lefts + rights > MAX_LEAVES) {
                return MISSING;
            }
            int leftShape = shapeOf(left) + DEEPER[lefts];
            int rightShape = shapeOf(right) + DEEPER[rights];
            long leaves = (left & LEAVES) | (right & LEAVES) << lefts * LEAF_BITS;
            return build(leaves, leftShape * TENS[rights] + rightShape);
        }

        /** A leaf of depth d fills 1 / 2^d of its term: the left part ends where one half is full. */
        static int countLeftLeaves(long pair) {
            int all = countLeaves(pair);
            int eighths = 0;
            for (int k = 1; k < all; k++) {
                int depth = shapeOf(pair) / TENS[all - k] % 10;
                eighths += 8 >> depth;
                if (eighths >= 4) {
                    return k;
                }
            }
            return all;
        }

        static long left(long pair) {
            int lefts = countLeftLeaves(pair);
            int rights = countLeaves(pair) - lefts;
            long leaves = pair & ((1L << lefts * LEAF_BITS) - 1);
            return build(leaves, shapeOf(pair) / TENS[rights] - DEEPER[lefts]);
        }

        static long right(long pair) {
            int lefts = countLeftLeaves(pair);
            int rights = countLeaves(pair) - lefts;
            long leaves = (pair & LEAVES) >>> lefts * LEAF_BITS;
            return build(leaves, shapeOf(pair) % TENS[rights] - DEEPER[rights]);
        }
    }

    /** Terms in order, the oldest first. */
    private static final class Row {
        final long[] things;
        int count;

        Row(int room) {
            things = new long[room];
        }

        long at(int i) {
            return i < 0 || i >= count ? Term.MISSING : things[i];
        }

        /** A full row loses it: the document says so of SIGNALS, all else is refused before. */
        void put(long thing) {
            if (count < things.length) {
                things[count] = thing;
                count++;
            }
        }

        void take(int i) {
            if (i < 0 || i >= count) {
                return;
            }
            for (int k = i + 1; k < count; k++) {
                things[k - 1] = things[k];
            }
            count--;
        }
    }

    private static final class Text {
        final char[] signs;
        int length;

        Text() {
            signs = new char[MAX_SIGNS];
        }

        void append(char sign) {
            if (length < MAX_SIGNS) {
                signs[length] = sign;
                length++;
            }
        }

        void copyFrom(Text other) {
            System.arraycopy(other.signs, 0, signs, 0, MAX_SIGNS);
            length = other.length;
        }

        /** For a whole program alone: there each ';' ends a clause and stands nowhere else. */
        int countClauses() {
            int count = 0;
            for (int i = 0; i < length; i++) {
                count += signs[i] == ';' ? 1 : 0;
            }
            return count;
        }
    }

    /** A place in a text. */
    private static final class Reader {
        static final char END = 0;
        Text text;
        int at;

        Reader() {
            text = new Text();
        }

        void open(Text opened) {
            text = opened;
            at = 0;
        }

        boolean isAtEnd() {
            return at >= text.length;
        }

        char sign() {
            return at < text.length ? text.signs[at] : END;
        }

        char next() {
            if (at >= text.length) {
                return END;
            }
            at++;
            return text.signs[at - 1];
        }

        boolean accept(char sign) {
            boolean accepted = at < text.length && text.signs[at] == sign;
            at += accepted ? 1 : 0;
            return accepted;
        }

        boolean acceptFrom(char first, char last) {
            boolean accepted = at < text.length && text.signs[at] >= first && text.signs[at] <= last;
            at += accepted ? 1 : 0;
            return accepted;
        }

        void skipPast(char sign) {
            for (int n = 0; n < MAX_SIGNS; n++) {
                if (next() == sign) {
                    return;
                }
            }
        }
    }

    /** Reads a text by the rules; each method stops at the first sign that can't stand. */
    private static final class Grammar {
        static final int WHOLE = -2;
        final Reader reader;

        Grammar() {
            reader = new Reader();
        }

        int placeOfFault(Text text) {
            reader.open(text);
            for (int n = 0; n < MAX_SIGNS && !reader.isAtEnd(); n++) {
                boolean isClause = readPattern(0) && readGuard() && reader.accept(':') && readActions();
                if (!isClause) {
                    return reader.at;
                }
            }
            return WHOLE;
        }

        boolean readPattern(int open) {
            if (reader.sign() == '(') {
                return open < MAX_OPEN && reader.accept('(')
                        && readPattern(open + 1) && reader.accept(',')
                        && readPattern(open + 1) && reader.accept(')');
            }
            return reader.accept('_') || readSimple();
        }

        boolean readGuard() {
            if (!reader.accept('?')) {
                return true;
            }
            return readExpression(0) && (reader.accept('<') || reader.accept('=')) && readExpression(0);
        }

        boolean readActions() {
            for (int n = 0; n < MAX_SIGNS; n++) {
                if (reader.accept(';')) {
                    return true;
                }
                if (!readAction()) {
                    return false;
                }
            }
            return false;
        }

        boolean readAction() {
            if (reader.accept('!')) {
                return readExpression(0) && readExpression(0);
            }
            if (reader.accept('~') || reader.accept('&') || reader.accept('$')) {
                return readExpression(0);
            }
            if (reader.accept('@')) {
                return reader.acceptFrom('0', '2') && readVariable();
            }
            return reader.accept('*') && reader.acceptFrom('0', '1');
        }

        boolean readExpression(int open) {
            char sign = reader.sign();
            if (sign == '(') {
                return open < MAX_OPEN && reader.accept('(')
                        && readExpression(open + 1) && reader.accept(',')
                        && readExpression(open + 1) && reader.accept(')');
            }
            if (sign == '+' || sign == '-' || sign == '/') {
                return open < MAX_OPEN && reader.accept(sign)
                        && readExpression(open + 1) && readExpression(open + 1);
            }
            return reader.accept('#') || readSimple();
        }

        boolean readSimple() {
            if (reader.accept('\'')) {
                return reader.acceptFrom('0', '9') && reader.acceptFrom('0', '9');
            }
            return reader.acceptFrom('0', '9') || reader.acceptFrom('a', 'h') || readVariable();
        }

        boolean readVariable() {
            return reader.acceptFrom('A', 'E') || reader.accept('S');
        }
    }

    private static final class Actor {
        final Text text;
        final Row mailbox;
        int status;
        long state;
        boolean trapping;
        /** The sum of 2 to the numbers of those linked with it. */
        int links;
        int reason;

        Actor() {
            text = new Text();
            mailbox = new Row(MAX_MAIL);
            status = FREE;
            state = Term.MISSING;
            reason = NONE;
        }

        void begin(Text program, long firstState) {
            text.copyFrom(program);
            status = ALIVE;
            state = firstState;
        }

        /** Leaves nothing behind for the next that is made under its number. */
        void finish(int why) {
            status = ENDED;
            reason = why;
            state = Term.MISSING;
            mailbox.count = 0;
            trapping = false;
            links = 0;
        }
    }

    /** The programs, the actors, and what is under way between these. */
    private static final class World {
        final Text[] programs;
        final boolean[] checked;
        final Actor[] actors;
        final Row[] ways;

        World() {
            programs = new Text[PROGRAMS];
            checked = new boolean[PROGRAMS];
            for (int i = 0; i < PROGRAMS; i++) {
                programs[i] = new Text();
                checked[i] = true;
            }
            actors = new Actor[ACTORS];
            for (int i = 0; i < ACTORS; i++) {
                actors[i] = new Actor();
            }
            ways = new Row[(OUTSIDE + 1) * ACTORS];
            for (int i = 0; i < ways.length; i++) {
                ways[i] = new Row(MAX_UNDER_WAY);
            }
        }

        Row way(int from, int to) {
            return ways[from * ACTORS + to];
        }

        /** The number of the actor made; -1 if none can be. */
        int make(int program, long state) {
            if (!checked[program]) {
                return -1;
            }
            for (int i = 0; i < ACTORS; i++) {
                if (actors[i].status == FREE) {
                    actors[i].begin(programs[program], state);
                    return i;
                }
            }
            return -1;
        }

        int countFree() {
            int count = 0;
            for (int i = 0; i < ACTORS; i++) {
                count += actors[i].status == FREE ? 1 : 0;
            }
            return count;
        }

        void link(int one, int other) {
            if (one != other && actors[other].status == ALIVE) {
                actors[one].links |= 1 << other;
                actors[other].links |= 1 << one;
            }
        }

        void end(int number, int reason) {
            int linked = actors[number].links;
            actors[number].finish(reason);
            for (int other = 0; other < ACTORS; other++) {
                if ((linked >> other & 1) != 0) {
                    way(number, other).put(Term.signal(reason));
                    actors[other].links &= ~(1 << number);
                }
            }
        }
    }

    /** Fits patterns and evaluates expressions of a checked text. */
    private static final class Evaluator {
        static final int NO_TROUBLE = 0;
        static final int FAULT = 1;
        static final int DIVISION = 2;
        static final int VARIABLES = 6;
        static final int STATE_VARIABLE = 5;

        final Reader reader;
        final long[] values;
        int self;
        int trouble;

        Evaluator() {
            reader = new Reader();
            values = new long[VARIABLES];
        }

        void begin(int actor, long state) {
            self = actor;
            trouble = NO_TROUBLE;
            for (int i = 0; i < VARIABLES; i++) {
                values[i] = i == STATE_VARIABLE ? state : Term.MISSING;
            }
        }

        boolean fits(long term, int open) {
            char sign = reader.next();
            if (sign == '_') {
                return true;
            }
            if (sign == '(') {
                return open < MAX_OPEN && Term.isPair(term)
                        && fits(Term.left(term), open + 1) && reader.accept(',')
                        && fits(Term.right(term), open + 1) && reader.accept(')');
            }
            int variable = variableOf(sign);
            if (variable < 0) {
                return constant(sign) == term;
            }
            if (values[variable] == Term.MISSING) {
                values[variable] = term;
            }
            return values[variable] == term;
        }

        boolean guardHolds() {
            if (!reader.accept('?')) {
                return true;
            }
            long left = evaluate(0);
            if (left == Term.MISSING) {
                return false;
            }
            char relation = reader.next();
            long right = evaluate(0);
            if (right == Term.MISSING) {
                return false;
            }
            if (relation == '=') {
                return left == right;
            }
            return Term.isInt(left) && Term.isInt(right) && left < right;
        }

        /** MISSING if there is trouble. */
        long evaluate(int open) {
            char sign = reader.next();
            if (sign == '(' || sign == '+' || sign == '-' || sign == '/') {
                return evaluateTwo(sign, open);
            }
            if (sign == '#') {
                return Term.ofLeaf(FIRST_ACTOR + self);
            }
            int variable = variableOf(sign);
            if (variable < 0) {
                return constant(sign);
            }
            return values[variable] == Term.MISSING ? failed(FAULT) : values[variable];
        }

        long evaluateTwo(char sign, int open) {
            if (open >= MAX_OPEN) {
                return failed(FAULT);
            }
            long left = evaluate(open + 1);
            if (left == Term.MISSING) {
                return Term.MISSING;
            }
            if (sign == '(') {
                reader.accept(',');
            }
            long right = evaluate(open + 1);
            if (right == Term.MISSING) {
                return Term.MISSING;
            }
            if (sign != '(') {
                return calculate(sign, left, right);
            }
            reader.accept(')');
            long pair = Term.pair(left, right);
            return pair == Term.MISSING ? failed(FAULT) : pair;
        }

        long calculate(char sign, long left, long right) {
            if (!Term.isInt(left) || !Term.isInt(right)) {
                return failed(FAULT);
            }
            int x = Term.leafAt(left, 0);
            int y = Term.leafAt(right, 0);
            if (sign == '/' && y == 0) {
                return failed(DIVISION);
            }
            int result = sign == '+' ? x + y : sign == '-' ? x - y : x / y;
            return Math.abs(result) > GREATEST ? failed(FAULT) : Term.ofLeaf(result);
        }

        long failed(int why) {
            trouble = why;
            return Term.MISSING;
        }

        /** The number or atom that begins with the sign. */
        long constant(char sign) {
            if (sign >= 'a' && sign <= 'h') {
                return Term.ofLeaf(FIRST_ATOM + sign - 'a');
            }
            if (sign == '\'') {
                int tens = reader.next() - '0';
                return Term.ofLeaf(tens * 10 + reader.next() - '0');
            }
            return Term.ofLeaf(sign - '0');
        }

        static int variableOf(char sign) {
            if (sign == 'S') {
                return STATE_VARIABLE;
            }
            return sign >= 'A' && sign <= 'E' ? sign - 'A' : -1;
        }
    }

    /** Finds the clause of a STEP and does its actions. */
    private static final class Stepper {
        static final int PER_MESSAGE = 100;

        final World world;
        final Evaluator evaluator;
        int self;
        long newState;
        int reason;

        Stepper(World stepped) {
            world = stepped;
            evaluator = new Evaluator();
        }

        /** The answer of the STEP, -1 if there is none; the reader is left behind the clause's guard. */
        int find(int actor) {
            self = actor;
            Row mailbox = world.actors[actor].mailbox;
            for (int i = 0; i < mailbox.count; i++) {
                int clause = findClause(mailbox.at(i));
                if (clause >= 0) {
                    return i * PER_MESSAGE + clause;
                }
            }
            return -1;
        }

        int findClause(long message) {
            Actor actor = world.actors[self];
            evaluator.reader.open(actor.text);
            for (int clause = 0; clause < MAX_SIGNS && !evaluator.reader.isAtEnd(); clause++) {
                evaluator.begin(self, actor.state);
                if (evaluator.fits(message, 0) && evaluator.guardHolds()) {
                    return clause;
                }
                evaluator.reader.skipPast(';');
            }
            return -1;
        }

        /** Takes the message out and does the actions of the clause just found; answers the trouble. */
        int perform(int message) {
            Actor actor = world.actors[self];
            actor.mailbox.take(message);
            newState = actor.state;
            reason = NONE;
            evaluator.reader.accept(':');
            for (int n = 0; n < MAX_SIGNS && reason == NONE && !evaluator.reader.accept(';'); n++) {
                act(evaluator.reader.next());
                if (evaluator.trouble != Evaluator.NO_TROUBLE) {
                    reason = evaluator.trouble == Evaluator.FAULT ? ATOM_F : ATOM_D;
                }
            }
            if (reason == NONE) {
                actor.state = newState;
            } else {
                world.end(self, reason);
            }
            return evaluator.trouble;
        }

        void act(char sign) {
            if (sign == '!') {
                putUnderWay();
            } else if (sign == '@') {
                makeLinked();
            } else if (sign == '*') {
                world.actors[self].trapping = evaluator.reader.next() == '1';
            } else {
                long value = evaluator.evaluate(0);
                if (value != Term.MISSING) {
                    use(sign, value);
                }
            }
        }

        void use(char sign, long value) {
            if (sign == '~') {
                newState = value;
            } else if (sign == '$') {
                reason = Term.leafAt(value, 0);
            } else if (Term.isActor(value)) {
                world.link(self, Term.leafAt(value, 0) - FIRST_ACTOR);
            } else {
                evaluator.failed(Evaluator.FAULT);
            }
        }

        void putUnderWay() {
            long to = evaluator.evaluate(0);
            if (to == Term.MISSING) {
                return;
            }
            long message = evaluator.evaluate(0);
            if (message == Term.MISSING) {
                return;
            }
            if (!Term.isActor(to)) {
                evaluator.failed(Evaluator.FAULT);
                return;
            }
            Row way = world.way(self, Term.leafAt(to, 0) - FIRST_ACTOR);
            if (way.count >= MAX_SENT) {
                evaluator.failed(Evaluator.FAULT);
                return;
            }
            way.put(message);
        }

        void makeLinked() {
            int program = evaluator.reader.next() - '0';
            int variable = Evaluator.variableOf(evaluator.reader.next());
            if (program < 0 || program >= PROGRAMS || variable < 0) {
                evaluator.failed(Evaluator.FAULT);
                return;
            }
            int made = world.make(program, Term.ofLeaf(0));
            if (made < 0) {
                evaluator.failed(Evaluator.FAULT);
                return;
            }
            world.link(self, made);
            evaluator.values[variable] = Term.ofLeaf(FIRST_ACTOR + made);
        }
    }
}
