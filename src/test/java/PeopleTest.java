/** Promises 1 to 14: people, locks. */
public final class PeopleTest {
    private static final int BAD = RegretLocks.BAD, NO = RegretLocks.NO, FULL = RegretLocks.FULL, KIND = RegretLocks.KIND;
    private static final int LEAST = Integer.MIN_VALUE, MOST = Integer.MAX_VALUE;

    public static void main(String[] args) {
        promise1New();
        promise2One();
        promise3Told();
        promise4As();
        promise5Turns();
        promise6Set();
        promise7Lock();
        promise8About();
        promise9Sets();
        promise10Mends();
        promise11Rule();
        promise12At();
        promise13Deal();
        promise14Seed();
        Due.end("PeopleTest");
    }

    private static void promise1New() {
        RegretLocks x = new RegretLocks();
        int[] counts = {0, 0, 0, 30, 10, 0, 0, 0, 1};
        for (int i = 0; i < counts.length; i++) {
            Due.due("count(" + i + ") at first", counts[i], x.count(i));
        }
        for (int i = 0; i < 5; i++) {
            Due.due("town(" + i + ") at first", 0, x.town(i));
            Due.due("lay(" + i + ", 0, 0) at first", 0, x.lay(i, 0, 0));
        }
        for (int i = 0; i < 4; i++) {
            Due.due("pour(" + i + ") at first", RegretLocks.NOTHING, x.pour(i));
        }
        Due.due("told(0, 0) at first", BAD, x.told(0, 0));
        Due.due("about(0, 0) at first", BAD, x.about(0, 0));
        Due.due("back() at first", NO, x.back());
        x.one(0, 0, 1, 1, 1);
        Due.due("a second object has nobody", 0, new RegretLocks().count(0));
    }

    private static void promise2One() {
        RegretLocks x = new RegretLocks();
        int[][] wrong = {{-1, 0, 0, 0, 0}, {6, 0, 0, 0, 0}, {0, -1, 0, 0, 0}, {0, 8, 0, 0, 0}, {0, 0, -1, 0, 0},
            {0, 0, 100, 0, 0}, {0, 0, 0, -1, 0}, {0, 0, 0, 100, 0}, {0, 0, 0, 0, -1}, {0, 0, 0, 0, 100},
            {LEAST, 0, 0, 0, 0}, {0, MOST, 0, 0, 0}, {0, 0, LEAST, MOST, LEAST}};
        for (int[] w : wrong) {
            Due.due("a wrong one", BAD, x.one(w[0], w[1], w[2], w[3], w[4]));
        }
        Due.due("nobody came", 0, x.count(0));
        for (int i = 0; i < 8; i++) {
            Due.due("one " + i, i, x.one(i % 6, 7 - i, 99, i, 0));
        }
        Due.due("a ninth one", FULL, x.one(5, 7, 99, 99, 99));
        Due.due("BAD stands ahead of FULL", BAD, x.one(6, 7, 99, 99, 99));
        Due.due("eight are there", 8, x.count(0));
        Due.due("the last is as told", 7, x.told(7, 3));
    }

    private static void promise3Told() {
        RegretLocks x = new RegretLocks();
        // odd regrets show where a half is cut; 0 and 99 are the edges
        int[][] due = {
            {0, 2, 0, 51, 99, 0, 51, 99, 150},
            {1, 2, 0, 51, 99, 9, 60, 108, 154},
            {2, 2, 0, 51, 99, 0, 25, 49, 150},
            {3, 2, 0, 51, 99, 18, 120, 216, 308},
            {4, 2, 0, 51, 99, 3, 28, 52, 145},
            {5, 2, 0, 51, 99, 0, 0, 0, 6}};
        for (int kind = 0; kind < 6; kind++) {
            x.one(kind, 2, 0, 51, 99);
            for (int what = 0; what < 9; what++) {
                Due.due("told(" + kind + ", " + what + ")", due[kind][what], x.told(kind, what));
            }
        }
        int happy = x.one(2, 0, 99, 99, 99);
        Due.due("worth of the happiest", 3, x.told(happy, 8));
        int child = x.one(4, 0, 99, 99, 99);
        Due.due("worth of a child", -2, x.told(child, 8));
        int[][] wrong = {{-1, 0}, {8, 0}, {0, -1}, {0, 9}, {LEAST, MOST}, {MOST, LEAST}};
        for (int[] w : wrong) {
            Due.due("told of none", BAD, x.told(w[0], w[1]));
        }
    }

    private static void promise4As() {
        RegretLocks x = new RegretLocks();
        boolean[][] is = {
            {true, false, false, false, false, false},
            {true, true, false, false, false, false},
            {true, false, true, false, false, false},
            {true, true, false, true, false, false},
            {true, false, true, false, true, false},
            {true, false, false, false, false, true}};
        for (int kind = 0; kind < 6; kind++) {
            x.one(kind, kind + 1, 0, 0, 0);
            for (int other = 0; other < 6; other++) {
                Due.due("as(" + kind + ", " + other + ")", is[kind][other] ? kind + 1 : KIND, x.as(kind, other));
            }
        }
        Due.due("as of none", BAD, x.as(6, 0));
        Due.due("as of none", BAD, x.as(-1, 0));
        Due.due("as of no kind", BAD, x.as(0, 6));
        Due.due("as of no kind", BAD, x.as(0, -1));
        Due.due("as far off", BAD, x.as(MOST, LEAST));
    }

    private static void promise5Turns() {
        RegretLocks x = new RegretLocks();
        x.one(0, 3, 10, 20, 31);
        Due.due("turns to general", 0, x.turns(0, 3));
        Due.due("is general", 3, x.told(0, 0));
        Due.due("feels so", 38, x.told(0, 5));
        Due.due("turns to false", 3, x.turns(0, 5));
        Due.due("is false", KIND, x.as(0, 1));
        Due.due("keeps its room", 3, x.told(0, 1));
        Due.due("keeps its regret", 31, x.told(0, 4));
        Due.due("turns to what it is", 5, x.turns(0, 5));
        Due.due("no such kind", BAD, x.turns(0, 6));
        Due.due("no such kind", BAD, x.turns(0, -1));
        Due.due("no such one", BAD, x.turns(1, 0));
        Due.due("no such one", BAD, x.turns(-1, 0));
        Due.due("is false still", 5, x.told(0, 0));
    }

    private static void promise6Set() {
        RegretLocks x = new RegretLocks();
        x.one(1, 3, 10, 20, 30);
        Due.due("room", 3, x.set(0, 1, 7));
        Due.due("room again", 7, x.set(0, 1, 0));
        for (int what = 2; what < 5; what++) {
            Due.due("regret", 10 * (what - 1), x.set(0, what, 99));
            Due.due("regret again", 99, x.set(0, what, what));
            Due.due("regret told", what, x.told(0, what));
        }
        int[][] wrong = {{0, 0, 1}, {0, 5, 1}, {0, -1, 1}, {0, 1, 8}, {0, 1, -1}, {0, 2, 100}, {0, 3, -1}, {0, 4, 100},
            {1, 1, 1}, {-1, 2, 1}, {MOST, LEAST, LEAST}};
        for (int[] w : wrong) {
            Due.due("a wrong set", BAD, x.set(w[0], w[1], w[2]));
        }
        Due.due("all stays", 9, x.town(3));
    }

    private static void promise7Lock() {
        RegretLocks x = new RegretLocks();
        int[][] wrong = {{-1, 0, 0, 0}, {8, 0, 0, 0}, {0, -1, 0, 0}, {0, 8, 0, 0}, {0, 0, -1, 0}, {0, 0, 3, 0},
            {0, 0, 0, -1}, {0, 0, 0, 100}, {MOST, LEAST, MOST, LEAST}};
        for (int[] w : wrong) {
            Due.due("a wrong lock", BAD, x.lock(w[0], w[1], w[2], w[3]));
        }
        for (int i = 0; i < 10; i++) {
            Due.due("lock " + i, i, x.lock(7, 7, 2, 99));
        }
        Due.due("an eleventh lock", FULL, x.lock(0, 0, 0, 0));
        Due.due("BAD stands ahead of FULL", BAD, x.lock(0, 0, 0, 100));
        Due.due("ten are there", 10, x.count(2));
    }

    private static void promise8About() {
        RegretLocks x = new RegretLocks();
        x.one(0, 0, 0, 0, 20);
        x.one(1, 1, 0, 0, 10);
        x.one(2, 2, 0, 0, 41);
        x.one(3, 3, 0, 0, 1);
        x.one(4, 4, 0, 0, 35);
        x.one(5, 5, 0, 0, 99);
        Due.due("lock", 0, x.lock(5, 6, 2, 20));
        int[] due = {5, 6, 2, 20, 0, 1 + 4 + 8 + 16};
        for (int what = 0; what < 6; what++) {
            Due.due("about(0, " + what + ")", due[what], x.about(0, what));
        }
        x.sets(0, 3, 0);
        Due.due("set to 0 it opens for all, in whatever room", 63, x.about(0, 5));
        jam(x, 5);
        Due.due("jammed", 1, x.about(0, 4));
        Due.due("jammed it opens for none", 0, x.about(0, 5));
        int[][] wrong = {{-1, 0}, {1, 0}, {0, -1}, {0, 6}, {MOST, LEAST}};
        for (int[] w : wrong) {
            Due.due("about none", BAD, x.about(w[0], w[1]));
        }
    }

    /** Lets one, a false one, try until a lock is jammed; no more than the day on which it is. */
    private static void jam(RegretLocks x, int one) {
        x.rule(0, 0);
        x.rule(1, 0);
        int room = x.told(one, 1);
        for (int i = 0; i < 50 && x.town(4) == 0; i++) {
            x.set(one, 1, room);
            x.days(1);
        }
    }

    private static void promise9Sets() {
        RegretLocks x = new RegretLocks();
        x.lock(1, 2, 0, 40);
        int[] was = {1, 2, 0, 40};
        int[] most = {7, 7, 2, 99};
        for (int what = 0; what < 4; what++) {
            Due.due("sets(0, " + what + ")", was[what], x.sets(0, what, most[what]));
            Due.due("sets again", most[what], x.sets(0, what, 0));
            Due.due("is so", 0, x.about(0, what));
            Due.due("too much", BAD, x.sets(0, what, most[what] + 1));
            Due.due("too little", BAD, x.sets(0, what, -1));
            Due.due("stays so", 0, x.about(0, what));
        }
        Due.due("no such what", BAD, x.sets(0, 4, 0));
        Due.due("no such what", BAD, x.sets(0, -1, 0));
        Due.due("no such lock", BAD, x.sets(1, 0, 0));
        Due.due("no such lock", BAD, x.sets(-1, 0, 0));
    }

    private static void promise10Mends() {
        RegretLocks x = new RegretLocks();
        Due.due("no such lock", BAD, x.mends(0));
        x.one(5, 0, 0, 0, 0);
        x.lock(0, 1, 0, 99);
        Due.due("it was not jammed", NO, x.mends(0));
        jam(x, 0);
        Due.due("it is jammed", 1, x.town(4));
        Due.due("it is mended", 1, x.mends(0));
        Due.due("none is jammed", 0, x.town(4));
        Due.due("it is mended already", NO, x.mends(0));
        Due.due("no such lock", BAD, x.mends(1));
        Due.due("no such lock", BAD, x.mends(-1));
    }

    private static void promise11Rule() {
        RegretLocks x = new RegretLocks();
        Due.due("deeds", 30, x.rule(0, 100));
        Due.due("pardons", 10, x.rule(1, 0));
        Due.due("deeds again", 100, x.rule(0, 0));
        Due.due("pardons again", 0, x.rule(1, 100));
        int[][] wrong = {{0, 101}, {0, -1}, {1, 101}, {1, -1}, {2, 1}, {-1, 1}, {MOST, LEAST}};
        for (int[] w : wrong) {
            Due.due("a wrong rule", BAD, x.rule(w[0], w[1]));
        }
        Due.due("deeds stay", 0, x.count(3));
        Due.due("pardons stay", 100, x.count(4));
    }

    private static void promise12At() {
        RegretLocks x = new RegretLocks();
        Due.due("nobody there", 0, x.at(0));
        x.one(0, 7, 0, 0, 0);
        x.one(5, 0, 0, 0, 0);
        x.one(0, 7, 0, 0, 0);
        Due.due("those in room 7", 5, x.at(7));
        Due.due("those in room 0", 2, x.at(0));
        Due.due("nobody in room 3", 0, x.at(3));
        Due.due("no such room", BAD, x.at(8));
        Due.due("no such room", BAD, x.at(-1));
    }

    private static void promise13Deal() {
        RegretLocks x = new RegretLocks();
        Due.due("none", BAD, x.deal(0));
        Due.due("too many", BAD, x.deal(9));
        Due.due("far too few", BAD, x.deal(LEAST));
        Due.due("no draw for refusals", 1, x.count(8));
        x.seed(-77);
        Draws draws = new Draws(-77);
        Due.due("two come", 2, x.deal(2));
        for (int i = 0; i < 2; i++) {
            int[] by = {6, 8, 60, 60, 60};
            for (int what = 0; what < 5; what++) {
                Due.due("drawn " + i + ", " + what, draws.rest(by[what]), x.told(i, what));
            }
        }
        Due.due("z behind ten draws", draws.z(), x.count(8));
        x.one(0, 0, 0, 0, 0);
        Due.due("as many as there is room for", 5, x.deal(8));
        for (int i = 0; i < 25; i++) {
            draws.rest(1);
        }
        Due.due("z behind their draws alone", draws.z(), x.count(8));
        Due.due("no room", 0, x.deal(1));
        Due.due("no draw for those without room", draws.z(), x.count(8));
        Due.due("too many, without room", BAD, x.deal(9));
    }

    private static void promise14Seed() {
        RegretLocks x = new RegretLocks();
        Due.due("first z", 1, x.seed(LEAST));
        Due.due("then", LEAST, x.seed(MOST));
        Due.due("then", MOST, x.seed(0));
        Due.due("z", 0, x.count(8));
    }
}
