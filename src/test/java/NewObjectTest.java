/** Promise 1. */
public final class NewObjectTest {
    public static void main(String[] args) {
        Due due = new Due("promise 1");
        for (int actor = 0; actor < 6; actor++) {
            due.run("about " + actor + " 0 = FREE", "about " + actor + " 1 = 0", "about " + actor + " 2 = 0",
                    "about " + actor + " 3 = NONE", "about " + actor + " 4 = 0", "about " + actor + " 5 = NONE",
                    "leaf " + actor + " 0 0 = NONE", "leaf " + actor + " 6 0 = NONE", "shape " + actor + " 6 = NONE",
                    "step " + actor + " ! IllegalStateException");
            for (int from = 0; from <= 6; from++) {
                due.run("about " + actor + " " + (6 + from) + " = 0",
                        "deliver " + from + " " + actor + " ! NoSuchElementException");
            }
        }
        for (int program = 0; program < 3; program++) {
            due.run("clear " + program + " = 0", "fault " + program + " = -2", "check " + program + " = 0");
            due.run("spawn " + program + " 4 = 0", "about 0 5 = 0");
        }
        due.isTrue("the constants", ActorMachine.FREE == 0 && ActorMachine.ALIVE == 1 && ActorMachine.ENDED == 2
                && ActorMachine.NONE == -5000);
        due.close();
    }
}
