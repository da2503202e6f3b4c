/** The edges that Terms 2 and promises 15 to 17 name. */
public final class DaysEdgesTest {
    private static final int BAD = RegretLocks.BAD, NO = RegretLocks.NO;
    private static final int LEAST = Integer.MIN_VALUE, MOST = Integer.MAX_VALUE;

    public static void main(String[] args) {
        below30();
        noLockToTry();
        firstNotJammed();
        falseOnesGoThen();
        byNumbers();
        shutGrow();
        deedsByRest();
        deedsOfWhom();
        deedsAtMost();
        deedsOfNobody();
        pardonsByRest();
        pardonsAreCut();
        pardonsOfNobody();
        fifthDays();
        passes();
        howManyDays();
        theLastDay();
        towns();
        Due.end("DaysEdgesTest");
    }

    private static RegretLocks quiet() {
        RegretLocks x = new RegretLocks();
        x.rule(0, 0);
        x.rule(1, 0);
        return x;
    }

    private static int behind(int z, int draws) {
        Draws d = new Draws(z);
        for (int i = 0; i < draws; i++) {
            d.rest(1);
        }
        return d.z();
    }

    private static void below30() {
        Due.of("Terms 2 (1): if its rest by 100 is below 30, that LOCK is JAMMED (JAMS 1 more)");
        for (int rest : new int[] {0, 1, 28, 29, 30, 31, 98, 99}) {
            RegretLocks x = quiet();
            x.one(5, 0, 0, 0, 0);
            x.lock(0, 1, 0, 1);
            int z = Draws.before(rest);
            x.seed(z);
            x.days(1);
            Due.due("jammed by " + rest, rest < 30 ? 1 : 0, x.about(0, 4));
            Due.due("jams by " + rest, rest < 30 ? 1 : 0, x.town(2));
            Due.due("three draws", behind(z, 3), x.count(8));
        }
    }

    private static void noLockToTry() {
        Due.of("Terms 2 (1): tries the first LOCK FROM its ROOM that is not JAMMED, if there is one: a draw");
        RegretLocks x = quiet();
        x.one(5, 0, 0, 0, 0);
        x.days(1);
        Due.due("no locks: no draw for a try", behind(1, 2), x.count(8));
        x.lock(1, 0, 0, 0);
        x.seed(1);
        x.days(1);
        Due.due("none from its room: no draw for a try", behind(1, 2), x.count(8));
        x.lock(0, 0, 0, 99);
        int z = Draws.before(0);
        x.seed(z);
        x.days(1);
        Due.due("one: a draw for a try", behind(z, 3), x.count(8));
        Due.due("it is jammed", 2, x.town(4));
        x.seed(z);
        x.days(1);
        Due.due("the only one is jammed: no draw for a try", behind(z, 2), x.count(8));
        Due.due("it was jammed once", 1, x.town(2));
    }

    private static void firstNotJammed() {
        Due.of("Terms 2 (1): the first LOCK, by numbers, that is not JAMMED");
        RegretLocks x = quiet();
        x.one(5, 3, 0, 0, 0);
        x.lock(0, 0, 0, 0);
        for (int i = 0; i < 3; i++) {
            x.lock(3, 3, 0, 99);
        }
        int[] due = {2, 6, 14, 14};
        for (int day = 0; day < 4; day++) {
            x.seed(Draws.before(0));
            x.days(1);
            Due.due("behind " + (day + 1) + " days", due[day], x.town(4));
        }
        Due.due("jams", 3, x.town(2));
    }

    private static void falseOnesGoThen() {
        Due.of("Terms 2 (1): each (FALSE ones, too, then) GOES THROUGH the first LOCK that OPENS for it");
        RegretLocks x = quiet();
        x.one(5, 0, 7, 7, 7);
        x.lock(0, 1, 0, 0);
        x.lock(0, 2, 1, 1);
        x.lock(0, 3, 2, 0);
        x.seed(Draws.before(0));
        Due.due("an entry", 1, x.days(1));
        Due.due("not through what it jammed, nor what asks for anything", 3, x.told(0, 1));
        Due.due("its regret is worn", 5, x.told(0, 4));
        Due.due("no other is", 14, x.told(0, 2) + x.told(0, 3));
        RegretLocks y = quiet();
        y.one(5, 0, 7, 7, 7);
        y.lock(0, 1, 0, 0);
        y.seed(Draws.before(0));
        Due.due("it jammed the only one", 0, y.days(1));
        Due.due("and is shut", 1, y.town(1));
        Due.due("and is sorrier", 8, y.told(0, 2));
    }

    private static void byNumbers() {
        Due.of("Terms 2 (1): PEOPLE by numbers");
        RegretLocks x = quiet();
        x.one(0, 0, 50, 50, 50);
        x.one(5, 0, 0, 0, 0);
        x.one(0, 0, 50, 50, 50);
        x.lock(0, 1, 0, 1);
        x.seed(Draws.before(29));
        Due.due("one enters", 1, x.days(1));
        Due.due("it is the one ahead of the false one", 1, x.told(0, 1));
        Due.due("the one behind it is shut", 0, x.told(2, 1));
        Due.due("as is the false one", 2, x.town(1));
        Due.of("Terms 2 (1): one GOES THROUGH one LOCK on a DAY");
        RegretLocks y = quiet();
        y.one(0, 0, 50, 50, 50);
        y.lock(0, 1, 0, 0);
        y.lock(1, 2, 0, 0);
        Due.due("one entry", 1, y.days(1));
        Due.due("not two rooms on", 1, y.told(0, 1));
    }

    private static void shutGrow() {
        Due.of("Terms 2 (1): SHUT is 1 more, and its REGRET of the SORT that is the rest of THE DAY by 3 is 1 more (99 at most)");
        for (int first : new int[] {0, 97, 98, 99}) {
            RegretLocks x = quiet();
            x.one(3, 0, first, first, first);
            x.one(5, 0, first, first, first);
            int[] due = {first, first, first};
            for (int day = 0; day < 7; day++) {
                Due.due("no entries", 0, x.days(1));
                due[day % 3] = Math.min(99, due[day % 3] + 1);
                for (int sort = 0; sort < 3; sort++) {
                    Due.due("day " + day + ", sort " + sort, due[sort], x.told(0, 2 + sort));
                    Due.due("day " + day + ", sort " + sort + " of a false one", due[sort], x.told(1, 2 + sort));
                }
                Due.due("shut", 2 * (day + 1), x.town(1));
            }
        }
    }

    /** One who enters each day without wear. */
    private static RegretLocks steady(int deeds, int pardons, int a, int b, int c) {
        RegretLocks x = new RegretLocks();
        x.rule(0, deeds);
        x.rule(1, pardons);
        x.one(0, 0, a, b, c);
        x.lock(0, 0, 0, 0);
        Due.law(x, "wear 0");
        return x;
    }

    private static void deedsByRest() {
        Due.of("Terms 2 (2): a draw; if its rest by 100 is below DEEDS, two more");
        int[][] restAndDeeds = {{0, 0}, {0, 1}, {1, 1}, {29, 30}, {30, 30}, {98, 99}, {99, 99}, {99, 100}, {0, 100}};
        for (int[] w : restAndDeeds) {
            RegretLocks x = steady(w[1], 0, 20, 20, 20);
            int z = Draws.before(w[0]);
            x.seed(z);
            x.days(1);
            boolean deed = w[0] < w[1];
            Due.due("rest " + w[0] + ", deeds " + w[1], deed ? 70 : 60, x.town(3));
            Due.due("draws", behind(z, deed ? 4 : 2), x.count(8));
        }
    }

    private static void deedsOfWhom() {
        Due.of("Terms 2 (2): the one that is the rest of the first by how many there are, the SORT the rest of the second by 3");
        for (int many = 1; many <= 8; many++) {
            for (int z = 0; z < 30; z++) {
                RegretLocks x = new RegretLocks();
                x.rule(0, 100);
                x.rule(1, 0);
                x.lock(0, 0, 0, 0);
                Due.law(x, "wear 0");
                for (int i = 0; i < many; i++) {
                    x.one(0, 0, 10, 10, 10);
                }
                x.seed(z);
                x.days(1);
                Draws draws = new Draws(z);
                draws.rest(100);
                int who = draws.rest(many);
                int sort = draws.rest(3);
                Due.due("of " + many + ", from " + z, 20, x.told(who, 2 + sort));
                Due.due("nobody else", 30 * many + 10, x.town(3));
            }
        }
    }

    private static void deedsAtMost() {
        Due.of("Terms 2 (2): is 10 more (99 at most)");
        for (int first : new int[] {0, 88, 89, 90, 98, 99}) {
            RegretLocks x = steady(100, 0, first, first, first);
            x.days(1);
            Due.due("10 more than " + first, 2 * first + Math.min(99, first + 10), x.town(3));
        }
    }

    private static void deedsOfNobody() {
        Due.of("Terms 2 (2): (and there are PEOPLE)");
        RegretLocks x = new RegretLocks();
        x.rule(0, 100);
        x.rule(1, 0);
        Due.due("no entries", 0, x.days(1));
        Due.due("a draw for deeds, one for pardons, none for nobody", behind(1, 2), x.count(8));
        x.days(100);
        Due.due("day by day", behind(1, 202), x.count(8));
    }

    private static void pardonsByRest() {
        Due.of("Terms 2 (3): a draw; if its rest by 100 is below PARDONS, one more");
        int[][] restAndPardons = {{0, 0}, {0, 1}, {1, 1}, {9, 10}, {10, 10}, {98, 99}, {99, 99}, {99, 100}, {0, 100}};
        for (int[] w : restAndPardons) {
            RegretLocks x = steady(0, w[1], 20, 40, 60);
            int z = Draws.before(50, w[0]);
            x.seed(z);
            x.days(1);
            boolean pardon = w[0] < w[1];
            Due.due("rest " + w[0] + ", pardons " + w[1], pardon ? 60 : 120, x.town(3));
            Due.due("draws", behind(z, pardon ? 3 : 2), x.count(8));
        }
    }

    private static void pardonsAreCut() {
        Due.of("Terms 2 (3): all REGRETS of the one are half (cut)");
        int[][] rows = {{0, 1, 2, 0, 0, 1}, {3, 98, 99, 1, 49, 49}};
        for (int[] w : rows) {
            RegretLocks x = steady(0, 100, w[0], w[1], w[2]);
            x.days(1);
            for (int sort = 0; sort < 3; sort++) {
                Due.due("half of " + w[sort], w[3 + sort], x.told(0, 2 + sort));
            }
        }
        Due.of("Terms 2 (3): the one that is its rest by how many there are");
        for (int z = 0; z < 40; z++) {
            RegretLocks x = steady(0, 100, 50, 50, 50);
            for (int i = 1; i < 8; i++) {
                x.one(0, 0, 50, 50, 50);
            }
            x.seed(z);
            x.days(1);
            Draws draws = new Draws(z);
            draws.rest(1);
            draws.rest(1);
            Due.due("from " + z, 75, x.fine(draws.rest(8)));
            Due.due("nobody else", 8 * 150 - 75, x.town(3));
        }
    }

    private static void pardonsOfNobody() {
        Due.of("Terms 2 (3): (and there are PEOPLE)");
        RegretLocks x = new RegretLocks();
        x.rule(0, 0);
        x.rule(1, 100);
        x.days(1);
        Due.due("two draws", behind(1, 2), x.count(8));
        x.rule(0, 100);
        x.days(1);
        Due.due("two more", behind(1, 4), x.count(8));
    }

    private static void fifthDays() {
        Due.of("Terms 2 (4): is the rest of THE DAY by 5 just 4, no LOCK is JAMMED any more");
        for (int start = 0; start < 10; start++) {
            RegretLocks x = quiet();
            for (int i = 0; i < start; i++) {
                x.days(1);
            }
            x.one(5, 0, 0, 0, 0);
            x.lock(0, 0, 0, 99);
            x.seed(Draws.before(0));
            x.days(1);
            Due.due("jams on day " + start, 1, x.town(2));
            Due.due("jammed behind day " + start, start % 5 == 4 ? 0 : 1, x.town(4));
            for (int day = start + 1; day < 10 && start % 5 != 4; day++) {
                x.set(0, 1, 7);
                x.days(1);
                if (day % 5 == 4) {
                    Due.due("mended behind day " + day, 0, x.town(4));
                    break;
                }
                Due.due("jammed still behind day " + day, 1, x.town(4));
            }
        }
        Due.of("Terms 2 (4): all LOCKS, JAMS stay told");
        RegretLocks x = quiet();
        for (int i = 0; i < 10; i++) {
            x.lock(0, 0, 0, 99);
        }
        for (int i = 0; i < 8; i++) {
            x.one(5, 0, 0, 0, 0);
        }
        for (int day = 0; day < 4; day++) {
            x.seed(Draws.before(0, 0, 0));
            x.days(1);
        }
        Due.due("all ten are jammed", 1023, x.town(4));
        Due.due("jams", 10, x.town(2));
        x.days(1);
        Due.due("none is", 0, x.town(4));
        Due.due("jams", 10, x.town(2));
    }

    private static void passes() {
        Due.of("Promise 15: one GOES THROUGH a LOCK now: its ROOM then");
        RegretLocks x = quiet();
        x.one(0, 0, 2, 0, 0);
        x.lock(0, 0, 0, 1);
        Due.due("into the room it is in", 0, x.passes(0, 0));
        Due.due("an entry", 1, x.town(0));
        Due.due("it is worn all the same", 0, x.told(0, 2));
        Due.of("Promise 15: NO: it is not in the ROOM FROM, or the LOCK does not OPEN for it");
        Due.due("it feels too little now", NO, x.passes(0, 0));
        x.set(0, 2, 1);
        x.set(0, 1, 1);
        Due.due("it is in another room", NO, x.passes(0, 0));
        Due.due("no entry", 1, x.town(0));
        Due.due("not shut", 0, x.town(1));
        Due.due("not sorrier", 1, x.town(3));
        x.one(5, 0, 0, 0, 0);
        x.sets(0, 3, 0);
        x.seed(Draws.before(0));
        x.days(1);
        x.set(0, 1, 0);
        Due.due("it is jammed", NO, x.passes(0, 0));
        Due.of("Promise 15: BAD");
        for (int none : new int[] {-1, 2, LEAST, MOST}) {
            Due.due("no one " + none, BAD, x.passes(none, 0));
            Due.due("no lock " + none, BAD, x.passes(0, none));
        }
        Due.due("BAD stands ahead of NO", BAD, x.passes(0, 1));
    }

    private static void howManyDays() {
        Due.of("Promise 16: n (1 .. 100) DAYS: by how much ENTRIES are more");
        RegretLocks x = quiet();
        x.one(0, 0, 0, 0, 0);
        x.lock(0, 0, 0, 0);
        Due.due("one", 1, x.days(1));
        Due.due("a hundred", 100, x.days(100));
        Due.due("THE DAY", 101, x.count(1));
        for (int n : new int[] {0, -1, 101, LEAST, MOST}) {
            Due.due("days(" + n + ")", BAD, x.days(n));
        }
        Due.due("THE DAY still", 101, x.count(1));
        Due.due("entries", 101, x.town(0));
        Due.due("nobody is shut", 0, x.town(1));
    }

    private static void theLastDay() {
        Due.of("Terms 1, Promise 16: THE DAY is 9999 at most (no more than up to 9999)");
        RegretLocks x = quiet();
        x.one(0, 0, 0, 0, 0);
        x.lock(0, 0, 0, 0);
        for (int i = 0; i < 99; i++) {
            x.days(100);
        }
        x.days(97);
        Due.due("THE DAY", 9997, x.count(1));
        x.keep();
        Due.due("one of one", 1, x.days(1));
        Due.due("one of a hundred", 1, x.days(100));
        Due.due("THE DAY", 9999, x.count(1));
        int z = x.count(8);
        for (int n : new int[] {1, 2, 100}) {
            Due.due("none of " + n, 0, x.days(n));
        }
        Due.due("still none of none", BAD, x.days(0));
        Due.due("still none of too many", BAD, x.days(101));
        Due.due("THE DAY", 9999, x.count(1));
        Due.due("no draw", z, x.count(8));
        Due.due("entries", 9999, x.town(0));
        x.back();
        Due.due("two of two", 2, x.days(2));
        x.back();
        Due.due("two of three", 2, x.days(3));
        Due.due("THE DAY", 9999, x.count(1));
    }

    private static void towns() {
        Due.of("Promise 17: REGRETS of all, together");
        RegretLocks x = quiet();
        Due.due("of nobody", 0, x.town(3));
        for (int i = 0; i < 8; i++) {
            x.one(5, 0, 99, 99, 99);
        }
        Due.due("of the sorriest", 8 * 297, x.town(3));
        Due.of("Promise 17: BAD");
        for (int what : new int[] {-1, 5, LEAST, MOST}) {
            Due.due("town(" + what + ")", BAD, x.town(what));
        }
    }
}
