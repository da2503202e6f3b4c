/** The edges that Terms 3 and promises 18 to 22 name. */
public final class WaysEdgesTest {
    private static final int BAD = RegretLocks.BAD, NONE = RegretLocks.NONE;
    private static final int LEAST = Integer.MIN_VALUE, MOST = Integer.MAX_VALUE;

    public static void main(String[] args) {
        noLatch();
        sevenLatches();
        eightLatchesOnACircle();
        justAsMuch();
        wornToNothing();
        noOtherDay();
        jammed();
        refused();
        pardoned();
        pardonsOfTheLeast();
        justTheLeast();
        justBy99();
        justOfOthers();
        sorry();
        sorryBy99();
        Due.end("WaysEdgesTest");
    }

    private static RegretLocks one(int kind, int room, int a, int b, int c) {
        RegretLocks x = new RegretLocks();
        x.rule(0, 0);
        x.rule(1, 0);
        x.one(kind, room, a, b, c);
        return x;
    }

    private static void ways(RegretLocks x, int... due) {
        int reach = 0;
        for (int room = 0; room < 8; room++) {
            Due.due("way to " + room, due[room], x.way(0, room));
            reach |= due[room] == NONE ? 0 : 1 << room;
        }
        Due.due("reach", reach, x.reach(0));
    }

    private static void noLatch() {
        Due.of("Terms 3: WAY of one to a ROOM: the fewest LOCKS (0 .. 8)");
        for (int room = 0; room < 8; room++) {
            RegretLocks x = one(0, room, 0, 0, 0);
            Due.due("to where it is", 0, x.way(0, room));
            Due.due("nowhere else", 1 << room, x.reach(0));
            Due.due("nowhere else", 1 << room, x.pardoned(0));
            x.lock(room, room, 0, 0);
            Due.due("to where it is, not by a lock", 0, x.way(0, room));
        }
    }

    private static void sevenLatches() {
        Due.of("Terms 3: one behind the other: the longest WAY, as no ROOM is worth entering twice");
        RegretLocks x = one(0, 7, 14, 0, 0);
        for (int room = 7; room > 0; room--) {
            // worn to 12, 10, .. : each opens just so
            x.lock(room, room - 1, 0, 2 * room);
        }
        ways(x, 7, 6, 5, 4, 3, 2, 1, 0);
        x.sets(6, 3, 3);
        ways(x, NONE, 6, 5, 4, 3, 2, 1, 0);
        x.sets(6, 3, 0);
        x.set(0, 2, 13);
        Due.due("one less, and the first does not open", 128, x.reach(0));
    }

    /** More latches than eight are there to be gone, around and around; the fewest count. */
    private static void eightLatchesOnACircle() {
        RegretLocks x = one(5, 0, 0, 0, 0);
        for (int room = 0; room < 8; room++) {
            x.lock(room, (room + 1) % 8, room % 3, 0);
        }
        ways(x, 0, 1, 2, 3, 4, 5, 6, 7);
        x.lock(0, 7, 0, 0);
        x.lock(7, 6, 0, 0);
        ways(x, 0, 1, 2, 3, 4, 5, 2, 1);
        x.sets(8, 3, 1);
        ways(x, 0, 1, 2, 3, 4, 5, 6, 7);
    }

    private static void justAsMuch() {
        Due.of("Terms 3: of each the REGRETS as they are worn by then");
        RegretLocks x = one(0, 0, 50, 50, 0);
        x.lock(0, 1, 0, 50);
        x.lock(1, 2, 0, 48);
        x.lock(1, 3, 0, 49);
        x.lock(1, 4, 1, 50);
        x.lock(4, 5, 0, 48);
        x.lock(4, 6, 1, 49);
        ways(x, 0, 1, 2, NONE, 2, 3, NONE, NONE);
        // of many locks between two rooms the one that wears another sort leads on
        x.lock(0, 1, 2, 0);
        ways(x, 0, 1, 2, 2, 2, 3, NONE, NONE);
    }

    private static void wornToNothing() {
        Due.of("Terms 3, GOING THROUGH: 0 at least");
        RegretLocks x = one(0, 0, 3, 0, 0);
        x.lock(0, 1, 0, 3);
        x.lock(1, 2, 0, 1);
        x.lock(2, 3, 0, 0);
        x.lock(3, 4, 0, 1);
        ways(x, 0, 1, 2, 3, NONE, NONE, NONE, NONE);
        RegretLocks child = one(4, 0, 4, 0, 0);
        child.lock(0, 1, 0, 5);
        child.lock(1, 2, 0, 3);
        child.lock(2, 3, 0, 3);
        child.lock(3, 4, 0, 4);
        ways(child, 0, 1, 2, 3, NONE, NONE, NONE, NONE);
    }

    private static void noOtherDay() {
        Due.of("Terms 3: nothing else goes on");
        RegretLocks x = one(0, 0, 50, 0, 0);
        Due.law(x, "wear t*10");
        for (int room = 0; room < 3; room++) {
            x.lock(room, room + 1, 0, 50);
        }
        ways(x, 0, 1, 2, 3, NONE, NONE, NONE, NONE);
        Due.due("nobody went", 0, x.town(0));
        Due.due("no day went by", 0, x.count(1));
        Due.due("no draw", 1, x.count(8));
    }

    private static void jammed() {
        Due.of("Terms 3: through which one can GO (not those that are JAMMED)");
        RegretLocks x = one(0, 0, 99, 99, 99);
        x.one(5, 1, 0, 0, 0);
        x.lock(1, 2, 0, 0);
        x.seed(Draws.before(0));
        x.days(1);
        x.set(0, 1, 1);
        ways(x, NONE, 0, NONE, NONE, NONE, NONE, NONE, NONE);
        x.mends(0);
        ways(x, NONE, 0, 1, NONE, NONE, NONE, NONE, NONE);
        x.lock(1, 2, 2, 99);
        ways(x, NONE, 0, 1, NONE, NONE, NONE, NONE, NONE);
    }

    private static void refused() {
        Due.of("Promises 18 to 20: BAD");
        RegretLocks x = one(0, 0, 0, 0, 0);
        for (int none : new int[] {-1, 1, 8, LEAST, MOST}) {
            Due.due("reach " + none, BAD, x.reach(none));
            Due.due("way of " + none, BAD, x.way(none, 0));
            Due.due("pardoned " + none, BAD, x.pardoned(none));
        }
        for (int none : new int[] {-1, 8, LEAST, MOST}) {
            Due.due("way to " + none, BAD, x.way(0, none));
        }
        Due.of("Promise 19: NONE: there is none");
        for (int room = 1; room < 8; room++) {
            Due.due("way to " + room, NONE, x.way(0, room));
        }
    }

    private static void pardoned() {
        Due.of("Terms 3: PARDONED: REACH, were all REGRETS of one half (cut) now");
        RegretLocks x = one(0, 0, 99, 51, 1);
        x.lock(0, 1, 0, 49);
        x.lock(0, 2, 0, 50);
        x.lock(0, 3, 1, 25);
        x.lock(0, 4, 1, 26);
        x.lock(0, 5, 2, 0);
        x.lock(0, 6, 2, 1);
        Due.due("unpardoned", 127, x.reach(0));
        Due.due("pardoned", 1 + 2 + 8 + 32, x.pardoned(0));
        Due.due("it is not pardoned by that", 127, x.reach(0));
        x.turns(0, 2);
        // a happy one feels the half of the half
        Due.due("happy, unpardoned", 1 + 2 + 8 + 32, x.reach(0));
        Due.due("happy, pardoned", 1 + 32, x.pardoned(0));
        x.turns(0, 5);
        Due.due("a false one loses nothing", x.reach(0), x.pardoned(0));
    }

    private static void pardonsOfTheLeast() {
        RegretLocks x = one(0, 0, 0, 0, 0);
        x.lock(0, 1, 0, 0);
        x.lock(1, 2, 0, 1);
        Due.due("half of nothing", 3, x.pardoned(0));
        x.set(0, 2, 1);
        Due.due("half of 1", 3, x.pardoned(0));
        RegretLocks y = one(1, 3, 0, 0, 0);
        y.lock(3, 4, 1, 9);
        y.lock(3, 5, 1, 10);
        Due.due("a guilty one feels 9 of nothing", 8 + 16, y.pardoned(0));
    }

    private static void justTheLeast() {
        Due.of("Terms 3: JUST: the least SET (0 .. 99) with which just these, of all PEOPLE, FEEL as much, or more");
        RegretLocks x = one(0, 0, 0, 30, 0);
        x.lock(7, 7, 1, 60);
        x.one(0, 1, 0, 31, 0);
        x.one(5, 2, 0, 99, 0);
        x.one(0, 3, 0, 0, 0);
        Due.due("all", 0, x.just(0, 15));
        Due.due("all who feel anything", 1, x.just(0, 3));
        Due.due("all but the one who feels 30", 31, x.just(0, 2));
        Due.due("nobody", 32, x.just(0, 0));
        Due.due("the one who feels less alone", NONE, x.just(0, 1));
        Due.due("the false one alone", NONE, x.just(0, 4));
        Due.due("all but those who feel alike", NONE, x.just(0, 11));
        x.sets(0, 2, 0);
        Due.due("of another sort all", 0, x.just(0, 15));
        Due.due("of another sort nobody", 1, x.just(0, 0));
        Due.of("Terms 3: JUST does not ask whether it is JAMMED");
        x.sets(0, 0, 2);
        x.sets(0, 2, 1);
        x.seed(Draws.before(0));
        x.days(1);
        Due.due("jammed", 1, x.about(0, 4));
        Due.due("all but the one who feels 30", 31, x.just(0, 2));
    }

    private static void justBy99() {
        RegretLocks x = one(0, 0, 98, 0, 0);
        x.lock(0, 0, 0, 0);
        Due.due("nobody, by 99", 99, x.just(0, 0));
        x.set(0, 2, 99);
        Due.due("nobody, by 100", NONE, x.just(0, 0));
        x.one(0, 0, 98, 0, 0);
        Due.due("one, by 99", 99, x.just(0, 1));
        x.set(1, 2, 99);
        Due.due("one of two alike", NONE, x.just(0, 1));
        x.turns(0, 3);
        Due.due("the one who feels 216, by 100", NONE, x.just(0, 1));
        RegretLocks empty = new RegretLocks();
        empty.lock(0, 0, 0, 99);
        Due.due("nobody, of nobody", 0, empty.just(0, 0));
    }

    private static void justOfOthers() {
        Due.of("Promise 21: BAD: also a set of others");
        for (int many = 0; many <= 8; many++) {
            RegretLocks x = new RegretLocks();
            x.lock(0, 0, 0, 0);
            for (int i = 0; i < many; i++) {
                x.one(0, 0, 5, 0, 0);
            }
            Due.due("all of " + many, 0, x.just(0, (1 << many) - 1));
            Due.due("one more than " + many, BAD, x.just(0, 1 << many));
            Due.due("all and one more than " + many, BAD, x.just(0, (2 << many) - 1));
            for (int set : new int[] {-1, LEAST, MOST, 1 << 30}) {
                Due.due("set " + set, BAD, x.just(0, set));
            }
            for (int lock : new int[] {-1, 1, 10, LEAST, MOST}) {
                Due.due("lock " + lock, BAD, x.just(lock, 0));
            }
        }
    }

    private static void sorry() {
        Due.of("Terms 3: SORRY: the least number by which its REGRET had to be more so that it FEELS as much");
        int[] set = {50, 49, 99};
        int[][] due = {{30, 29, 79}, {21, 20, 70}, {NONE, 78, NONE}, {0, 0, 21}, {74, 72, NONE}, {NONE, NONE, NONE}};
        for (int kind = 0; kind < 6; kind++) {
            RegretLocks x = one(kind, 0, 0, 20, 0);
            x.lock(7, 7, 1, 0);
            Due.due("set to 0, kind " + kind, 0, x.sorry(0, 0));
            for (int i = 0; i < set.length; i++) {
                x.sets(0, 3, set[i]);
                Due.due("set to " + set[i] + ", kind " + kind, due[kind][i], x.sorry(0, 0));
            }
        }
    }

    private static void sorryBy99() {
        Due.of("Terms 3: SORRY (99 at most with it); Promise 22: NONE: by none");
        RegretLocks x = one(0, 0, 0, 0, 0);
        x.lock(0, 0, 0, 99);
        Due.due("all of 99", 99, x.sorry(0, 0));
        x.set(0, 2, 99);
        Due.due("none of 99", 0, x.sorry(0, 0));
        x.set(0, 2, 98);
        Due.due("one of 99", 1, x.sorry(0, 0));
        x.turns(0, 2);
        x.sets(0, 3, 49);
        Due.due("a happy one feels 49 of 98", 0, x.sorry(0, 0));
        x.set(0, 2, 97);
        Due.due("a happy one feels 49 of 98", 1, x.sorry(0, 0));
        x.sets(0, 3, 50);
        Due.due("a happy one never feels 50", NONE, x.sorry(0, 0));
        x.turns(0, 4);
        x.sets(0, 3, 52);
        Due.due("a child feels 52 of 98", 1, x.sorry(0, 0));
        x.sets(0, 3, 53);
        Due.due("a child never feels 53", NONE, x.sorry(0, 0));
        x.turns(0, 5);
        x.sets(0, 3, 1);
        Due.due("a false one never feels 1", NONE, x.sorry(0, 0));
        x.sets(0, 3, 0);
        Due.due("a false one feels 0", 0, x.sorry(0, 0));
        Due.of("Promise 22: BAD");
        for (int none : new int[] {-1, 1, LEAST, MOST}) {
            Due.due("sorry of " + none, BAD, x.sorry(none, 0));
            Due.due("sorry for " + none, BAD, x.sorry(0, none));
        }
        Due.of("Terms 3: SORRY does not ask whether it is JAMMED");
        x.sets(0, 3, 40);
        x.seed(Draws.before(0));
        x.days(1);
        x.turns(0, 0);
        x.set(0, 2, 30);
        Due.due("jammed", 1, x.about(0, 4));
        Due.due("sorry", 10, x.sorry(0, 0));
    }
}
