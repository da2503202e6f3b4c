/** Promises 18 to 22: ways. */
public final class WaysTest {
    private static final int BAD = RegretLocks.BAD, NONE = RegretLocks.NONE;

    public static void main(String[] args) {
        promise18And19Ways();
        promise19Lengths();
        promise19RoundAbout();
        promise19ByLaw();
        promise18Jams();
        promise18ManyLoops();
        promise20Pardoned();
        promise21Just();
        promise22Sorry();
        Due.end("WaysTest");
    }

    private static void ways(RegretLocks x, int one, int... due) {
        int reach = 0;
        for (int room = 0; room < 8; room++) {
            Due.due("way(" + one + ", " + room + ")", due[room], x.way(one, room));
            reach |= due[room] == NONE ? 0 : 1 << room;
        }
        Due.due("reach(" + one + ")", reach, x.reach(one));
    }

    private static void promise18And19Ways() {
        RegretLocks x = new RegretLocks();
        Due.due("nobody", BAD, x.reach(0));
        x.one(0, 2, 5, 0, 0);
        ways(x, 0, NONE, NONE, 0, NONE, NONE, NONE, NONE, NONE);
        x.lock(2, 3, 0, 5);
        x.lock(3, 4, 0, 3);
        x.lock(4, 5, 0, 2);
        x.lock(2, 6, 0, 6);
        x.lock(3, 3, 0, 0);
        x.lock(2, 4, 1, 0);
        // worn from 5 to 3 to 1: the third lock opens only for one who came by the last
        ways(x, 0, NONE, NONE, 0, 1, 1, 2, NONE, NONE);
        x.sets(5, 3, 1);
        ways(x, 0, NONE, NONE, 0, 1, 2, NONE, NONE, NONE);
        int z = x.count(8);
        Due.due("one stays where it is", 2, x.told(0, 1));
        Due.due("its regret stays", 5, x.told(0, 2));
        Due.due("no entry", 0, x.town(0));
        Due.due("no draw", z, x.count(8));
        Due.due("no such one", BAD, x.reach(1));
        Due.due("no such one", BAD, x.reach(-1));
        Due.due("no such one", BAD, x.way(1, 0));
        Due.due("no such one", BAD, x.way(-1, 0));
        Due.due("no such room", BAD, x.way(0, 8));
        Due.due("no such room", BAD, x.way(0, -1));
    }

    private static void promise19Lengths() {
        RegretLocks x = new RegretLocks();
        x.one(5, 0, 0, 0, 0);
        for (int i = 0; i < 7; i++) {
            x.lock(i, i + 1, i % 3, 0);
        }
        ways(x, 0, 0, 1, 2, 3, 4, 5, 6, 7);
    }

    /** The nearest way to a room may wear what the next lock asks for: then a longer one leads on. */
    private static void promise19RoundAbout() {
        RegretLocks x = new RegretLocks();
        x.one(0, 2, 30, 9, 0);
        x.lock(2, 3, 0, 30);
        x.lock(2, 4, 1, 9);
        x.lock(4, 3, 1, 7);
        x.lock(3, 5, 0, 30);
        x.lock(5, 6, 1, 6);
        ways(x, 0, NONE, NONE, 0, 1, 1, 3, NONE, NONE);
        x.sets(4, 3, 5);
        ways(x, 0, NONE, NONE, 0, 1, 1, 3, 4, NONE);
        x.turns(0, 4);
        ways(x, 0, NONE, NONE, 0, NONE, NONE, NONE, NONE, NONE);
    }

    private static void promise19ByLaw() {
        RegretLocks x = new RegretLocks();
        Due.due("a law", 0, Due.text(x, "wear (r>1)*(s+1+t)"));
        x.one(0, 0, 10, 20, 0);
        x.lock(0, 1, 0, 10);
        x.lock(1, 2, 0, 9);
        x.lock(2, 3, 0, 8);
        x.lock(3, 4, 1, 20);
        x.lock(4, 5, 1, 18);
        x.lock(5, 6, 1, 17);
        ways(x, 0, 0, 1, 2, 3, 4, 5, NONE, NONE);
        x.rule(0, 0);
        x.rule(1, 0);
        x.set(0, 1, 7);
        x.days(1);
        x.set(0, 1, 0);
        x.set(0, 2, 10);
        // on the next day a latch takes one more
        ways(x, 0, 0, 1, NONE, NONE, NONE, NONE, NONE, NONE);
    }

    private static void promise18Jams() {
        RegretLocks x = new RegretLocks();
        x.rule(0, 0);
        x.rule(1, 0);
        x.one(0, 0, 50, 50, 50);
        x.one(5, 1, 0, 0, 0);
        x.lock(0, 2, 0, 51);
        x.lock(1, 3, 0, 1);
        for (int i = 0; i < 50 && x.town(4) == 0; i++) {
            x.days(1);
        }
        Due.due("jammed", 2, x.town(4));
        x.set(0, 1, 1);
        Due.due("no way through what is jammed", NONE, x.way(0, 3));
        Due.due("none reached through it", 2, x.reach(0));
        x.mends(1);
        Due.due("a way through what is mended", 1, x.way(0, 3));
    }

    /** Ten locks from each room into itself or the next: far more ways than can be gone one by one. */
    private static void promise18ManyLoops() {
        RegretLocks x = new RegretLocks();
        x.one(3, 0, 99, 99, 99);
        for (int i = 0; i < 10; i++) {
            x.lock(0, i == 9 ? 1 : 0, i % 3, 20);
        }
        ways(x, 0, 0, 1, NONE, NONE, NONE, NONE, NONE, NONE);
    }

    private static void promise20Pardoned() {
        RegretLocks x = new RegretLocks();
        Due.due("nobody", BAD, x.pardoned(0));
        x.one(0, 0, 41, 7, 0);
        x.lock(0, 1, 0, 20);
        x.lock(1, 2, 0, 18);
        x.lock(2, 3, 0, 17);
        x.lock(0, 4, 1, 4);
        Due.due("unpardoned", 1 + 2 + 4 + 8 + 16, x.reach(0));
        Due.due("half is cut to 20 and 3", 1 + 2 + 4, x.pardoned(0));
        Due.due("only thought", 41, x.told(0, 2));
        x.turns(0, 1);
        Due.due("feels of the half, not half of what it feels", 31, x.pardoned(0));
        Due.due("no such one", BAD, x.pardoned(1));
        Due.due("no such one", BAD, x.pardoned(-1));
    }

    private static void promise21Just() {
        RegretLocks x = new RegretLocks();
        x.lock(0, 1, 1, 50);
        Due.due("just nobody, of nobody", 0, x.just(0, 0));
        Due.due("one who is not", BAD, x.just(0, 1));
        x.one(0, 0, 99, 10, 99);
        x.one(1, 1, 99, 10, 99);
        x.one(3, 2, 99, 99, 99);
        Due.due("just all", 0, x.just(0, 7));
        Due.due("just those above 10", 11, x.just(0, 6));
        Due.due("just those above 19", 20, x.just(0, 4));
        Due.due("just nobody: one feels 216", NONE, x.just(0, 0));
        Due.due("just the least", NONE, x.just(0, 1));
        x.set(2, 3, 40);
        Due.due("one feels 98: just nobody by 99", 99, x.just(0, 0));
        Due.due("a set of others, too", BAD, x.just(0, 8));
        Due.due("a set of others, too", BAD, x.just(0, 15));
        Due.due("a set below 0", BAD, x.just(0, -1));
        Due.due("the least set", BAD, x.just(0, Integer.MIN_VALUE));
        Due.due("no such lock", BAD, x.just(1, 0));
        Due.due("no such lock", BAD, x.just(-1, 0));
        Due.due("it is set as it was", 50, x.about(0, 3));
        for (int i = 3; i < 8; i++) {
            x.one(0, 0, 0, 0, 0);
        }
        Due.due("all eight", 0, x.just(0, 255));
        Due.due("more than eight", BAD, x.just(0, 256));
    }

    private static void promise22Sorry() {
        RegretLocks x = new RegretLocks();
        x.lock(0, 1, 2, 52);
        // a happy one would need 104, a child 98
        int[] due = {22, 13, NONE, 0, 98 - 30, NONE};
        for (int kind = 0; kind < 6; kind++) {
            x.one(kind, 7, 0, 0, 30);
            Due.due("sorry(" + kind + ", 0)", due[kind], x.sorry(kind, 0));
        }
        x.sets(0, 3, 49);
        Due.due("98 is enough for a happy one", 68, x.sorry(2, 0));
        x.sets(0, 3, 99);
        Due.due("99 at most with it", 69, x.sorry(0, 0));
        x.set(0, 4, 99);
        Due.due("none needed", 0, x.sorry(0, 0));
        x.sets(0, 3, 0);
        Due.due("none needed of a false one", 0, x.sorry(5, 0));
        Due.due("no such one", BAD, x.sorry(6, 0));
        Due.due("no such one", BAD, x.sorry(-1, 0));
        Due.due("no such lock", BAD, x.sorry(0, 1));
        Due.due("no such lock", BAD, x.sorry(0, -1));
    }
}
