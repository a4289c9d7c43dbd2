import java.util.NoSuchElementException;

/**
 * Runs of calls written as lines, each with the answer that is due:
 * "spawn 0 5 = 0" asks for an answer, "step 0 ! ArithmeticException" for an exception.
 * "put 0 a:;" types a text, "program 0 a:;" clears, types and checks it.
 * "mail 1 0 7 0" sends from the outside and delivers at once.
 * An answer may be a number, an atom a .. h, an actor #0 .. #5, NONE, FREE, ALIVE or ENDED.
 */
final class Due {
    private final String title;
    private String sentence = "";
    private int sentences;
    private int linesBefore;
    private int wrong;
    private int lines;

    Due(String title) {
        this.title = title;
    }

    /** What follows tests this sentence of the document. */
    void says(String words) {
        isTrue("some answer is asked for", sentences == 0 || lines > linesBefore);
        sentence = ", \"" + words + "\"";
        sentences++;
        linesBefore = lines;
    }

    /** The lines are calls on one new object. */
    void run(String... calls) {
        String[] got = answers(calls);
        for (int i = 0; i < calls.length; i++) {
            lines++;
            String want = wanted(calls[i]);
            if (!got[i].equals(want)) {
                wrong++;
                System.out.println(title + sentence + ", call " + i + " of " + String.join("; ", calls) + ": "
                        + calls[i] + " answered " + got[i] + ", due is " + want);
            }
        }
    }

    /** What the calls answer on one new object; what they say to be due is left aside. */
    static String[] answers(String... calls) {
        ActorMachine machine = new ActorMachine();
        String[] got = new String[calls.length];
        for (int i = 0; i < calls.length; i++) {
            got[i] = answer(machine, calls[i]);
        }
        return got;
    }

    void isTrue(String what, boolean holds) {
        lines++;
        if (!holds) {
            wrong++;
            System.out.println(title + sentence + ": " + what + " does not hold");
        }
    }

    void close() {
        isTrue("some answer is asked for", lines > linesBefore);
        String of = sentences == 0 ? "" : sentences + " sentences, ";
        System.out.println(title + ": " + of + lines + " answers, " + wrong + " wrong");
        if (wrong != 0) {
            System.exit(1);
        }
    }

    /** The signs as the bytes of a number, the first the highest. */
    static long pack(String signs) {
        long packed = 0;
        for (int i = 0; i < signs.length(); i++) {
            packed = packed << 8 | signs.charAt(i);
        }
        return packed;
    }

    static void put(ActorMachine machine, int program, String text) {
        for (int i = 0; i < text.length(); i += 8) {
            machine.type(program, pack(text.substring(i, Math.min(text.length(), i + 8))));
        }
    }

    private static String wanted(String call) {
        String[] words = call.split(" ");
        String mark = words.length < 2 ? "" : words[words.length - 2];
        if (mark.equals("!")) {
            return words[words.length - 1];
        }
        return mark.equals("=") ? Integer.toString(number(words[words.length - 1])) : "done";
    }

    private static String answer(ActorMachine machine, String call) {
        String[] words = call.split(" ");
        try {
            if (words[0].equals("put") || words[0].equals("program")) {
                return write(machine, words);
            }
            if (words[0].equals("mail")) {
                machine.send(arg(words, 1), arg(words, 2), arg(words, 3), arg(words, 4));
                machine.deliver(6, arg(words, 1));
                return "done";
            }
            return Integer.toString(call(machine, words));
        } catch (IllegalStateException | IllegalArgumentException | NoSuchElementException | ArithmeticException
                | UnsupportedOperationException e) {
            return e.getClass().getSimpleName();
        }
    }

    private static String write(ActorMachine machine, String[] words) {
        int program = arg(words, 1);
        if (words[0].equals("program")) {
            machine.clear(program);
        }
        put(machine, program, words[2]);
        if (words[0].equals("program")) {
            machine.check(program);
        }
        return "done";
    }

    private static int call(ActorMachine m, String[] words) {
        int x = arg(words, 1);
        switch (words[0]) {
            case "type":
                return m.type(x, Long.parseLong(words[2]));
            case "clear":
                return m.clear(x);
            case "check":
                return m.check(x);
            case "fault":
                return m.fault(x);
            case "spawn":
                return m.spawn(x, arg(words, 2));
            case "send":
                return m.send(x, arg(words, 2), arg(words, 3), arg(words, 4));
            case "deliver":
                return m.deliver(x, arg(words, 2));
            case "step":
                return m.step(x);
            case "kill":
                return m.kill(x);
            case "reap":
                return m.reap(x);
            case "leaf":
                return m.leaf(x, arg(words, 2), arg(words, 3));
            case "shape":
                return m.shape(x, arg(words, 2));
            case "about":
                return m.about(x, arg(words, 2));
            default:
                throw new Error("no such call: " + words[0]);
        }
    }

    private static int arg(String[] words, int i) {
        return number(words[i]);
    }

    private static int number(String word) {
        switch (word) {
            case "NONE":
                return ActorMachine.NONE;
            case "FREE":
                return ActorMachine.FREE;
            case "ALIVE":
                return ActorMachine.ALIVE;
            case "ENDED":
                return ActorMachine.ENDED;
            default:
                break;
        }
        if (word.charAt(0) == '#') {
            return 3000 + Integer.parseInt(word.substring(1));
        }
        if (word.charAt(0) >= 'a' && word.charAt(0) <= 'h') {
            return 2000 + word.charAt(0) - 'a';
        }
        return Integer.parseInt(word);
    }
}
