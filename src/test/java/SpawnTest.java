/** Promise 6. */
public final class SpawnTest {
    public static void main(String[] args) {
        Due due = new Due("promise 6");
        due.run("program 0 A:;", "program 2 a:;b:;", "spawn 0 -999 = 0", "spawn 1 999 = 1", "spawn 2 0 = 2",
                "leaf 0 6 0 = -999", "leaf 1 6 0 = 999", "leaf 2 6 0 = 0", "leaf 2 6 1 = NONE", "shape 0 6 = 0",
                "about 0 5 = 1", "about 1 5 = 0", "about 2 5 = 2", "about 2 0 = ALIVE", "about 2 1 = 0",
                "about 2 2 = 0", "about 2 3 = NONE", "about 2 4 = 0", "about 3 0 = FREE");
        due.run("spawn 0 1000 ! IllegalArgumentException", "spawn 0 -1000 ! IllegalArgumentException",
                "spawn 3 0 ! IllegalArgumentException", "spawn -1 0 ! IllegalArgumentException", "about 0 0 = FREE");
        due.run("put 0 a", "spawn 0 0 ! IllegalStateException", "spawn 0 1000 ! IllegalArgumentException",
                "about 0 0 = FREE", "spawn 1 0 = 0");
        // the least free number, and none free
        due.run("spawn 0 0 = 0", "spawn 0 1 = 1", "spawn 0 2 = 2", "spawn 0 3 = 3", "spawn 0 4 = 4", "spawn 0 5 = 5",
                "spawn 0 6 ! IllegalStateException", "spawn 0 1000 ! IllegalArgumentException", "kill 4 = 0",
                "kill 1 = 0", "spawn 0 6 ! IllegalStateException", "reap 4 = 1", "reap 1 = 2", "spawn 0 7 = 1",
                "leaf 1 6 0 = 7", "spawn 0 8 = 4", "spawn 0 6 ! IllegalStateException");
        // nothing of the one before is left under a number used again
        due.run("program 0 a:*1;b:@1A;", "spawn 0 5 = 0", "mail 0 1 0 0", "step 0 = 0", "mail 0 1 1 0", "step 0 = 1",
                "mail 0 0 8 0", "kill 0 = 1", "reap 0 = 5", "spawn 1 6 = 0", "about 0 1 = 0", "about 0 2 = 0",
                "about 0 3 = NONE", "about 0 4 = 0", "about 0 5 = 0", "leaf 0 6 0 = 6", "about 1 4 = 0");
        // its text is the one of that time
        due.run("program 0 a:~1;", "spawn 0 0 = 0", "program 0 a:~2;b:;", "spawn 0 0 = 1", "put 0 x",
                "mail 0 1 0 0", "mail 1 1 0 0", "step 0 = 0", "step 1 = 0", "leaf 0 6 0 = 1", "leaf 1 6 0 = 2",
                "about 0 5 = 1", "about 1 5 = 2");
        due.close();
    }
}
