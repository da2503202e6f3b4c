/** Promises 15 to 17: days. */
public final class DaysTest {
    private static final int BAD = RegretLocks.BAD, NO = RegretLocks.NO;

    public static void main(String[] args) {
        promise15Passes();
        promise15WearsByKinds();
        promise16Days();
        promise16TheLastDay();
        promise16False();
        promise16ShutGrow();
        promise16Deeds();
        promise16Pardons();
        promise16Mending();
        promise17Town();
        Due.end("DaysTest");
    }

    private static void promise15Passes() {
        RegretLocks x = new RegretLocks();
        x.one(0, 0, 10, 20, 1);
        x.lock(0, 3, 0, 10);
        x.lock(3, 4, 2, 1);
        x.lock(4, 4, 1, 21);
        Due.due("not in that room", NO, x.passes(0, 1));
        Due.due("through", 3, x.passes(0, 0));
        Due.due("in it", 3, x.told(0, 1));
        Due.due("worn by 2", 8, x.told(0, 2));
        Due.due("an entry", 1, x.town(0));
        Due.due("no day", 0, x.count(1));
        Due.due("through the next", 4, x.passes(0, 1));
        Due.due("worn to 0 at least", 0, x.told(0, 4));
        Due.due("does not open", NO, x.passes(0, 2));
        x.set(0, 3, 21);
        Due.due("opens for just as much", 4, x.passes(0, 2));
        Due.due("into the same room: an entry, too", 3, x.town(0));
        Due.due("no such one", BAD, x.passes(1, 0));
        Due.due("no such one", BAD, x.passes(-1, 0));
        Due.due("no such lock", BAD, x.passes(0, 3));
        Due.due("no such lock", BAD, x.passes(0, -1));
        Due.due("no draws", 1, x.count(8));
    }

    private static void promise15WearsByKinds() {
        int[] plain = {2, 1, 4, 1, 5, 2};
        int[] seven = {7, 3, 14, 3, 15, 7};
        int[] most = {99, 49, 99, 49, 99, 99};
        for (int kind = 0; kind < 6; kind++) {
            Due.due("wear of kind " + kind, plain[kind], worn(kind, ""));
            Due.due("wear by a text of kind " + kind, seven[kind], worn(kind, "wear 7"));
            Due.due("wear held below of kind " + kind, kind == 4 ? 1 : 0, worn(kind, "wear 0-9"));
            Due.due("wear held above of kind " + kind, most[kind], worn(kind, "wear 9999"));
        }
        RegretLocks x = new RegretLocks();
        Due.text(x, "wear r/10+s*10+t*5");
        x.lock(0, 0, 2, 0);
        x.days(1);
        x.one(0, 0, 99, 99, 60);
        x.passes(0, 0);
        Due.due("wear by regret, sort and day", 60 - 6 - 20 - 5, x.told(0, 4));
    }

    private static int worn(int kind, String law) {
        RegretLocks x = new RegretLocks();
        if (!law.isEmpty()) {
            Due.due("a law", 0, Due.text(x, law));
        }
        x.one(kind, 0, 0, 99, 0);
        x.lock(0, 1, 1, 0);
        x.passes(0, 0);
        return 99 - x.told(0, 3);
    }

    /** A town in which nothing comes by lot. */
    private static RegretLocks quiet() {
        RegretLocks x = new RegretLocks();
        x.rule(0, 0);
        x.rule(1, 0);
        return x;
    }

    private static void promise16Days() {
        RegretLocks x = quiet();
        Due.due("no days", BAD, x.days(0));
        Due.due("too many", BAD, x.days(101));
        Due.due("below 0", BAD, x.days(-1));
        Due.due("no day went by", 0, x.count(1));
        Due.due("without people", 0, x.days(100));
        Draws draws = new Draws(1);
        for (int i = 0; i < 200; i++) {
            draws.rest(1);
        }
        Due.due("two draws a day without people", draws.z(), x.count(8));
        x.one(0, 0, 50, 50, 50);
        x.one(0, 1, 50, 50, 50);
        x.lock(0, 2, 0, 51);
        x.lock(0, 1, 0, 50);
        x.lock(0, 3, 0, 0);
        x.lock(1, 0, 1, 0);
        Due.due("both enter", 2, x.days(1));
        Due.due("through the first that opens", 1, x.told(0, 1));
        Due.due("the other one, too", 0, x.told(1, 1));
        Due.due("twice and thrice: the first one is shut in on the last day", 5, x.days(3));
        Due.due("as it went through the third, with 48", 3, x.told(0, 1));
        Due.due("the day", 104, x.count(1));
        Due.due("entries together", 7, x.town(0));
        Due.due("shut", 1, x.town(1));
    }

    private static void promise16TheLastDay() {
        RegretLocks x = quiet();
        x.one(0, 0, 0, 0, 0);
        x.lock(0, 0, 0, 0);
        for (int i = 0; i < 99; i++) {
            x.days(100);
        }
        Due.due("days up to 9999 alone", 99, x.days(100));
        Due.due("the last day", 9999, x.count(1));
        int z = x.count(8);
        Due.due("none behind it", 0, x.days(1));
        Due.due("no draw", z, x.count(8));
        Due.due("still the last day", 9999, x.count(1));
        Due.due("nothing was shut", 0, x.town(1));
        Due.due("what is thought goes beyond it", 9999 + 100, x.behind(100, 0));
    }

    /** Of false ones: a try ahead of each one's own going, by numbers, at the first lock that is not jammed. */
    private static void promise16False() {
        int jammed = 0;
        for (int seed = 0; seed < 200; seed++) {
            RegretLocks x = quiet();
            x.seed(seed);
            x.one(5, 0, 9, 9, 9);
            x.one(0, 0, 99, 99, 99);
            x.one(5, 0, 9, 9, 9);
            x.lock(1, 0, 0, 0);
            x.lock(0, 1, 0, 50);
            x.lock(0, 2, 1, 0);
            Draws draws = new Draws(seed);
            boolean first = draws.rest(100) < 30;
            boolean second = draws.rest(100) < 30;
            int jams = (first ? 2 : 0) | (second ? first ? 4 : 2 : 0);
            int entries = x.days(1);
            Due.due("jammed, seed " + seed, jams, x.town(4));
            Due.due("jams, seed " + seed, (first ? 1 : 0) + (second ? 1 : 0), x.town(2));
            Due.due("the first goes, seed " + seed, 2, x.told(0, 1));
            Due.due("its regret is worn, seed " + seed, 7, x.told(0, 3));
            Due.due("the honest one, seed " + seed, first ? 2 : 1, x.told(1, 1));
            Due.due("the last, seed " + seed, first && second ? 0 : 2, x.told(2, 1));
            Due.due("entries, seed " + seed, first && second ? 2 : 3, entries);
            Due.due("shut, seed " + seed, first && second ? 1 : 0, x.town(1));
            draws.rest(1);
            draws.rest(1);
            Due.due("z, seed " + seed, draws.z(), x.count(8));
            jammed += first && second ? 1 : 0;
        }
        Due.holds("some seeds jam both", jammed > 0);
        RegretLocks x = quiet();
        x.one(5, 0, 0, 0, 0);
        x.lock(1, 0, 0, 0);
        x.days(1);
        Draws draws = new Draws(1);
        draws.rest(1);
        draws.rest(1);
        Due.due("no draw of one who finds no lock", draws.z(), x.count(8));
    }

    private static void promise16ShutGrow() {
        RegretLocks x = quiet();
        x.one(0, 0, 10, 99, 30);
        x.one(1, 0, 0, 0, 0);
        x.lock(0, 1, 0, 99);
        for (int day = 0; day < 6; day++) {
            Due.due("nobody enters", 0, x.days(1));
        }
        Due.due("shut", 12, x.town(1));
        Due.due("grown of sort 0", 12, x.told(0, 2));
        Due.due("99 at most", 99, x.told(0, 3));
        Due.due("grown of sort 2", 32, x.told(0, 4));
        Due.due("by the sort of the day", 2, x.told(1, 3));
        x.days(1);
        Due.due("the seventh day is of sort 0", 13, x.told(0, 2));
        Due.due("and of no other", 32, x.told(0, 4));
    }

    /** People who enter each day without wear, so that their regrets change by lot alone. */
    private static RegretLocks steady(int people, int deeds, int pardons) {
        RegretLocks x = new RegretLocks();
        x.rule(0, deeds);
        x.rule(1, pardons);
        for (int i = 0; i < people; i++) {
            x.one(0, i, 60, 50 + i, 41);
            x.lock(i, i, 0, 0);
        }
        Due.text(x, "wear 0");
        return x;
    }

    private static void byLot(int seed, int people, int deeds, int pardons, int days) {
        RegretLocks x = steady(people, deeds, pardons);
        x.seed(seed);
        int[][] regrets = new int[people][];
        for (int i = 0; i < people; i++) {
            regrets[i] = new int[] {60, 50 + i, 41};
        }
        Draws draws = new Draws(seed);
        for (int day = 0; day < days; day++) {
            Due.due("all enter", people, x.days(1));
            if (draws.rest(100) < deeds) {
                int who = draws.rest(people);
                int sort = draws.rest(3);
                regrets[who][sort] = Math.min(99, regrets[who][sort] + 10);
            }
            if (draws.rest(100) < pardons) {
                int who = draws.rest(people);
                for (int sort = 0; sort < 3; sort++) {
                    regrets[who][sort] /= 2;
                }
            }
            for (int i = 0; i < people; i++) {
                for (int sort = 0; sort < 3; sort++) {
                    Due.due("regrets by lot", regrets[i][sort], x.told(i, 2 + sort));
                }
            }
            Due.due("z by lot", draws.z(), x.count(8));
        }
    }

    private static void promise16Deeds() {
        byLot(1, 3, 100, 0, 40);
        byLot(2, 8, 30, 0, 30);
        byLot(3, 1, 50, 0, 12);
        for (int seed = 0; seed < 300; seed++) {
            byLot(seed, 2, 1 + seed % 99, 0, 1);
        }
    }

    private static void promise16Pardons() {
        byLot(1, 2, 0, 50, 9);
        byLot(2, 1, 0, 100, 8);
        byLot(3, 8, 30, 10, 60);
        byLot(4, 5, 90, 90, 40);
        for (int seed = 0; seed < 300; seed++) {
            byLot(seed, 2, 50, 1 + seed % 99, 1);
        }
    }

    private static void promise16Mending() {
        for (int seed = 0; seed < 40; seed++) {
            RegretLocks x = quiet();
            x.seed(seed);
            for (int i = 0; i < 8; i++) {
                x.one(5, i, 0, 0, 0);
                x.lock(i, i, 0, 99);
            }
            x.days(4);
            int jammed = x.town(4);
            Due.holds("what is jammed stays so until the fifth day", jammed != 0);
            x.days(1);
            Due.due("on the fifth day no lock is jammed any more", 0, x.town(4));
            int jams = x.town(2);
            Due.holds("jams are told on", jams >= Integer.bitCount(jammed));
            x.days(5);
            Due.due("nor on the tenth", 0, x.town(4));
        }
    }

    private static void promise17Town() {
        RegretLocks x = quiet();
        x.one(5, 0, 1, 2, 3);
        x.one(3, 1, 10, 20, 30);
        x.lock(0, 0, 0, 99);
        x.lock(1, 1, 0, 0);
        x.days(4);
        Due.due("entries", 4, x.town(0));
        Due.due("shut", 4, x.town(1));
        Due.due("all regrets", 6 + 4 + 60 - 4, x.town(3));
        Due.due("jams are jammed", Integer.bitCount(x.town(4)), x.town(2));
        Due.due("what is none", BAD, x.town(5));
        Due.due("what is none", BAD, x.town(-1));
    }
}
