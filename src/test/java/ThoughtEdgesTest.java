/** The edges that Terms 3, where all is only thought, and promises 23 to 29 name. */
public final class ThoughtEdgesTest {
    private static final int BAD = RegretLocks.BAD, NONE = RegretLocks.NONE, NOTHING = RegretLocks.NOTHING;
    private static final int LEAST = Integer.MIN_VALUE, MOST = Integer.MAX_VALUE;

    public static void main(String[] args) {
        behindNoDays();
        behindWhom();
        behindTheLastDay();
        lawsBehindTheLastDay();
        entersNow();
        entersBehind200();
        entersBehindTheLastDay();
        freedForHowMany();
        freedOfSeveral();
        freedButJammed();
        freedBehindTheLastDay();
        becomesForHowMany();
        becomesOfSeveral();
        becomesBehindTheLastDay();
        likeByPlaces();
        likeByNoNumbers();
        likeOfSeveral();
        likeBehindTheLastDay();
        fees();
        fines();
        Due.end("ThoughtEdgesTest");
    }

    private static RegretLocks quiet() {
        RegretLocks x = new RegretLocks();
        x.rule(0, 0);
        x.rule(1, 0);
        return x;
    }

    /** A quiet town without anybody on its last day. */
    private static RegretLocks late() {
        RegretLocks x = quiet();
        for (int i = 0; i < 100; i++) {
            x.days(100);
        }
        Due.due("the last day", 9999, x.count(1));
        return x;
    }

    private static void behindNoDays() {
        Due.of("Promise 23: BEHIND n (0 .. 100) DAYS");
        RegretLocks x = quiet();
        x.one(0, 0, 0, 0, 0);
        x.one(0, 5, 0, 0, 0);
        x.lock(0, 0, 0, 0);
        x.days(3);
        Due.due("entries now", 3, x.behind(0, 0));
        Due.due("shut now", 3, x.behind(0, 1));
        Due.due("jams now", 0, x.behind(0, 2));
        Due.due("its room now", 5, x.behind(0, 4));
        Due.due("behind 1", 4, x.behind(1, 0));
        Due.due("behind 100", 103, x.behind(100, 0));
        for (int n : new int[] {-1, 101, LEAST, MOST}) {
            for (int what = 0; what < 5; what++) {
                Due.due("behind " + n, BAD, x.behind(n, what));
            }
        }
        Due.due("as it was", 3, x.town(0));
    }

    private static void behindWhom() {
        Due.of("Promise 23: what 0 ENTRIES, 1 SHUT, 2 JAMS; 3 and k: ROOM of number k");
        RegretLocks x = quiet();
        for (int many = 0; many <= 8; many++) {
            for (int k = 0; k < 8; k++) {
                Due.due("of " + many + " the room of " + k, k < many ? 7 - k : BAD, x.behind(0, 3 + k));
            }
            Due.due("of a ninth", BAD, x.behind(0, 11));
            if (many < 8) {
                x.one(0, 7 - many, 0, 0, 0);
            }
        }
        for (int what : new int[] {-1, LEAST, MOST, MOST - 2}) {
            Due.due("behind what " + what, BAD, x.behind(0, what));
        }
    }

    private static void behindTheLastDay() {
        Due.of("Terms 3: BEHIND, without the bound of THE DAY");
        RegretLocks x = late();
        x.one(0, 0, 0, 0, 0);
        x.lock(0, 0, 0, 0);
        x.one(0, 1, 0, 0, 0);
        Due.due("entries behind 100 more", 100, x.behind(100, 0));
        Due.due("shut behind 100 more", 100, x.behind(100, 1));
        Due.due("no more are lived", 0, x.days(100));
        Due.due("nothing was entered", 0, x.town(0));
        Due.due("the last day still", 9999, x.count(1));
    }

    private static void lawsBehindTheLastDay() {
        Due.of("Terms 3, 4: t is THE DAY, above 9999, too, where it is only thought");
        RegretLocks x = late();
        x.one(0, 0, 60, 0, 0);
        x.lock(0, 0, 0, 60);
        Due.law(x, "wear t>9999");
        // on day 9999 nothing is worn, on day 10000 one of 60 is
        Due.due("behind three days", 2, x.behind(3, 0));
        Due.law(x, "wear (t-9999)*10");
        Due.due("worn by 0, by 10", 2, x.behind(4, 0));
        x.sets(0, 3, 50);
        Due.due("worn by 0, by 10, by 20", 3, x.behind(4, 0));
        Due.of("Terms 2: (1) and (4) by THE DAY, above 9999, too, where it is only thought");
        RegretLocks y = late();
        y.one(0, 0, 0, 0, 0);
        y.lock(0, 1, 1, 1);
        Due.due("sorry of sort 1 by day 10000", 3, y.enters(0, 1));
        y.sets(0, 2, 2);
        Due.due("sorry of sort 2 by day 10001", 4, y.enters(0, 1));
        y.sets(0, 2, 0);
        Due.due("sorry of sort 0 by day 9999", 2, y.enters(0, 1));
    }

    private static void entersNow() {
        Due.of("Terms 3: ENTERS: behind how many DAYS (0 .. 200) it is in it first");
        RegretLocks x = quiet();
        for (int room = 0; room < 8; room++) {
            x.one(0, room, 0, 0, 0);
            Due.due("in it now", 0, x.enters(room, room));
        }
        x.lock(0, 1, 0, 0);
        x.lock(1, 0, 0, 0);
        Due.due("in it now, again behind two", 0, x.enters(0, 0));
        Due.due("behind one", 1, x.enters(0, 1));
        Due.of("Promise 24: BAD; NONE: not by then");
        Due.due("never", NONE, x.enters(0, 2));
        for (int none : new int[] {-1, 8, LEAST, MOST}) {
            Due.due("one " + none, BAD, x.enters(none, 0));
            Due.due("room " + none, BAD, x.enters(0, none));
        }
    }

    /** Shut in, one is sorrier of sort 0 by 67 behind 199 days: the 200th lets it through what is set to that. */
    private static void entersBehind200() {
        RegretLocks x = quiet();
        x.one(0, 0, 0, 0, 0);
        x.lock(0, 1, 0, 66);
        Due.due("behind 197", 197, x.enters(0, 1));
        x.sets(0, 3, 67);
        Due.due("behind 200", 200, x.enters(0, 1));
        x.sets(0, 3, 68);
        Due.due("behind 203", NONE, x.enters(0, 1));
        x.sets(0, 2, 1);
        x.sets(0, 3, 67);
        Due.due("behind 201", NONE, x.enters(0, 1));
        x.set(0, 3, 1);
        Due.due("behind 198", 198, x.enters(0, 1));
    }

    private static void entersBehindTheLastDay() {
        Due.of("Terms 3: ENTERS, without the bound of THE DAY");
        RegretLocks x = late();
        x.one(0, 0, 0, 0, 0);
        x.lock(0, 1, 0, 67);
        Due.due("behind 200", 200, x.enters(0, 1));
        x.sets(0, 3, 68);
        Due.due("behind 203", NONE, x.enters(0, 1));
        Due.due("the last day still", 9999, x.count(1));
    }

    private static void freedForHowMany() {
        Due.of("Promise 25: FREED for n (1 .. 60): what 0 the LOCK, 1 ENTRIES");
        RegretLocks x = quiet();
        x.one(0, 0, 0, 0, 0);
        Due.due("no locks", NONE, x.freed(1, 0));
        Due.due("no locks", NONE, x.freed(60, 1));
        x.lock(0, 0, 0, 99);
        Due.due("for 1", 0, x.freed(1, 0));
        Due.due("for 1", 1, x.freed(1, 1));
        Due.due("for 60", 60, x.freed(60, 1));
        for (int n : new int[] {0, -1, 61, LEAST, MOST}) {
            Due.due("for " + n, BAD, x.freed(n, 0));
        }
        for (int what : new int[] {-1, 2, LEAST, MOST}) {
            Due.due("what " + what, BAD, x.freed(1, what));
        }
        RegretLocks nobody = quiet();
        nobody.lock(0, 0, 0, 99);
        nobody.lock(0, 0, 0, 99);
        Due.due("for nobody", 0, nobody.freed(60, 0));
        Due.due("for nobody", 0, nobody.freed(60, 1));
    }

    private static void freedOfSeveral() {
        Due.of("Terms 3: FREED: of several the least");
        RegretLocks x = quiet();
        x.one(0, 3, 0, 0, 0);
        for (int i = 0; i < 10; i++) {
            x.lock(i % 8, i % 8, 0, 99);
        }
        Due.due("the only one", 3, x.freed(5, 0));
        x.sets(9, 0, 3);
        x.sets(9, 1, 3);
        Due.due("of two the less", 3, x.freed(5, 0));
        x.sets(3, 0, 2);
        Due.due("the last one", 9, x.freed(5, 0));
        x.sets(9, 0, 2);
        Due.due("none: the least", 0, x.freed(5, 0));
        Due.due("entries of none", 0, x.freed(5, 1));
        x.sets(5, 0, 3);
        x.sets(5, 3, 0);
        x.sets(5, 1, 3);
        Due.due("one stands open as it is: all are as good, the least", 0, x.freed(5, 0));
        Due.due("entries by it", 5, x.freed(5, 1));
    }

    private static void freedButJammed() {
        Due.of("Terms 3: FREED: with whose SET 0 now (it may be JAMMED all the same)");
        RegretLocks x = quiet();
        x.one(5, 0, 0, 0, 0);
        x.lock(0, 0, 0, 99);
        x.seed(Draws.before(0));
        x.days(1);
        x.turns(0, 0);
        Due.due("jammed", 1, x.about(0, 4));
        Due.due("jammed until day 4 is over", 0, x.freed(4, 1));
        Due.due("not any more then", 1, x.freed(5, 1));
    }

    private static void freedBehindTheLastDay() {
        Due.of("Terms 3: FREED, without the bound of THE DAY");
        RegretLocks x = late();
        x.one(0, 0, 0, 0, 0);
        x.lock(1, 0, 0, 99);
        x.lock(0, 0, 0, 99);
        Due.due("the lock", 1, x.freed(60, 0));
        Due.due("entries", 60, x.freed(60, 1));
    }

    private static void becomesForHowMany() {
        Due.of("Promise 26: BECOMES of one, for n (1 .. 60): what 0 the KIND, 1 ENTRIES");
        RegretLocks x = quiet();
        Due.due("nobody", BAD, x.becomes(0, 1, 0));
        x.one(0, 0, 20, 0, 0);
        x.lock(0, 0, 0, 50);
        Due.due("for 1", 3, x.becomes(0, 1, 0));
        Due.due("for 1", 1, x.becomes(0, 1, 1));
        Due.due("for 60", 3, x.becomes(0, 60, 0));
        for (int n : new int[] {0, -1, 61, LEAST, MOST}) {
            Due.due("for " + n, BAD, x.becomes(0, n, 0));
        }
        for (int none : new int[] {-1, 1, LEAST, MOST}) {
            Due.due("one " + none, BAD, x.becomes(none, 1, 0));
        }
        for (int what : new int[] {-1, 2, LEAST, MOST}) {
            Due.due("what " + what, BAD, x.becomes(0, 1, what));
        }
        x.sets(0, 3, 0);
        Due.due("entries for 60", 60, x.becomes(0, 60, 1));
    }

    private static void becomesOfSeveral() {
        Due.of("Terms 3: BECOMES: of several the least");
        RegretLocks x = quiet();
        x.one(5, 0, 20, 0, 0);
        Due.due("none is better", 0, x.becomes(0, 5, 0));
        Due.due("none is better", 0, x.becomes(0, 5, 1));
        x.lock(0, 1, 0, 20);
        Due.due("three are as good", 0, x.becomes(0, 1, 0));
        x.sets(0, 3, 21);
        Due.due("two are as good", 1, x.becomes(0, 1, 0));
        x.sets(0, 3, 30);
        Due.due("one is best", 3, x.becomes(0, 1, 0));
        Due.due("it is false still", 5, x.told(0, 0));
        Due.of("Terms 3: BECOMES: ENTRIES of all");
        RegretLocks y = quiet();
        y.one(5, 0, 0, 0, 0);
        y.one(0, 0, 0, 0, 0);
        y.lock(0, 0, 0, 0);
        y.seed(Draws.before(0));
        y.days(1);
        y.mends(0);
        y.seed(Draws.before(0));
        Due.due("as a false one it would shut both out", 0, y.behind(1, 0));
        Due.due("best an honest one", 0, y.becomes(0, 1, 0));
        Due.due("both enter", 2, y.becomes(0, 1, 1));
        Due.due("the other one had better stay: the first one jams", 0, y.becomes(1, 1, 1));
    }

    private static void becomesBehindTheLastDay() {
        Due.of("Terms 3: BECOMES, without the bound of THE DAY");
        RegretLocks x = late();
        x.one(0, 0, 0, 0, 0);
        x.lock(0, 0, 0, 9);
        Due.due("a guilty one", 1, x.becomes(0, 60, 0));
        Due.due("entries", 60, x.becomes(0, 60, 1));
    }

    private static void likeByPlaces() {
        Due.of("Terms 3: LIKE: the one whose ROOM behind k DAYS is just place k (k from 0 on)");
        RegretLocks x = quiet();
        x.one(0, 7, 0, 0, 0);
        x.one(0, 0, 0, 0, 0);
        x.lock(0, 1, 0, 0);
        x.lock(1, 0, 0, 0);
        x.sheet(0, 0, 24);
        for (int k = 0; k < 24; k++) {
            x.mark(0, k, k % 2);
        }
        Due.due("the one who goes to and fro", 1, x.like(0, 0));
        Due.due("at all 24 places", 24, x.like(0, 1));
        x.mark(0, 23, 0);
        Due.due("at all but the last", 23, x.like(0, 1));
        x.mark(0, 0, 7);
        Due.due("at all but the first and last", 22, x.like(0, 1));
        x.sheet(0, 1, 1);
        x.mark(0, 0, 7);
        Due.due("one place: the room now", 0, x.like(0, 0));
        Due.due("one place: the room now", 1, x.like(0, 1));
        x.sheet(0, 1, 0);
        Due.due("no places: the least", 0, x.like(0, 0));
        Due.due("no places", 0, x.like(0, 1));
        Due.of("Promise 27: BAD; NOTHING; NONE: there are no PEOPLE");
        for (int none : new int[] {-1, 4, LEAST, MOST}) {
            Due.due("sheet " + none, BAD, x.like(none, 0));
        }
        for (int none : new int[] {-1, 2, LEAST, MOST}) {
            Due.due("what " + none, BAD, x.like(0, none));
            Due.due("what " + none + " of what is missing", BAD, x.like(1, none));
        }
        Due.due("missing", NOTHING, x.like(1, 0));
        RegretLocks nobody = quiet();
        Due.due("missing, nobody", NOTHING, nobody.like(3, 1));
        nobody.sheet(3, 0, 0);
        Due.due("no places, nobody", NONE, nobody.like(3, 0));
        Due.due("no places, nobody", NONE, nobody.like(3, 1));
    }

    private static void likeByNoNumbers() {
        Due.of("Terms 3: LIKE: at most places that are numbers");
        RegretLocks x = quiet();
        x.one(0, 0, 0, 0, 0);
        x.one(0, 3, 0, 0, 0);
        x.sheet(0, 1, 3);
        for (int k = 0; k < 3; k++) {
            x.mark(0, k, NONE);
        }
        Due.due("no numbers: the least", 0, x.like(0, 0));
        Due.due("no numbers", 0, x.like(0, 1));
        x.mark(0, 2, 3);
        Due.due("one number, behind two that are none", 1, x.like(0, 0));
        Due.due("one number, behind two that are none", 1, x.like(0, 1));
        x.sheet(1, 0, 2);
        x.mark(1, 0, -1);
        x.mark(1, 1, 8);
        Due.due("numbers of no room: the least", 0, x.like(1, 0));
        Due.due("numbers of no room", 0, x.like(1, 1));
        x.mark(1, 0, 65536 + 3);
        Due.due("shorts by their lowest 16 bits", 1, x.like(1, 0));
    }

    private static void likeOfSeveral() {
        Due.of("Terms 3: LIKE: of several the least");
        RegretLocks x = quiet();
        for (int i = 0; i < 8; i++) {
            x.one(0, i < 6 ? 1 : 2, 0, 0, 0);
        }
        x.sheet(0, 0, 2);
        x.mark(0, 0, 2);
        Due.due("of two the less", 6, x.like(0, 0));
        x.mark(0, 1, 2);
        Due.due("of two the less", 6, x.like(0, 0));
        x.set(6, 1, 3);
        Due.due("the last", 7, x.like(0, 0));
        x.mark(0, 1, 1);
        Due.due("of all the least", 0, x.like(0, 0));
        Due.due("one place each", 1, x.like(0, 1));
    }

    private static void likeBehindTheLastDay() {
        Due.of("Terms 3: LIKE, without the bound of THE DAY");
        RegretLocks x = late();
        x.one(0, 0, 0, 0, 0);
        x.lock(0, 1, 0, 0);
        x.lock(1, 2, 0, 0);
        x.sheet(0, 0, 3);
        x.mark(0, 1, 1);
        x.mark(0, 2, 2);
        Due.due("three places", 3, x.like(0, 1));
    }

    private static void fees() {
        Due.of("Promise 28, Terms 4: what fee gives (without a TEXT: ENTRIES)");
        RegretLocks x = quiet();
        Due.due("nothing yet", 0, x.fee());
        Due.law(x, "wear 5");
        Due.law(x, "fine 6");
        Due.due("no text for fee", 0, x.fee());
        Due.law(x, "fee 0-1");
        Due.due("below 0", -1, x.fee());
        Due.of("Terms 4: ints wrap");
        Due.law(x, "fee 32*8192*8192");
        Due.due("above the most", LEAST, x.fee());
        Due.law(x, "fee 32*8192*8192-1");
        Due.due("below the least", MOST, x.fee());
        Due.law(x, "fee 32*8192*8192/(0-1)");
        Due.due("the least by -1", LEAST, x.fee());
    }

    private static void fines() {
        Due.of("Promise 29, Terms 4: what fine gives for one (without a TEXT: all REGRETS, together)");
        RegretLocks x = quiet();
        x.one(5, 7, 99, 99, 99);
        x.one(3, 0, 0, 0, 0);
        Due.due("the most", 297, x.fine(0));
        Due.due("the least", 0, x.fine(1));
        Due.law(x, "fine o*1000+r");
        Due.due("the most", 7297, x.fine(0));
        Due.due("the least", 0, x.fine(1));
        Due.of("Promise 29: BAD");
        for (int none : new int[] {-1, 2, LEAST, MOST}) {
            Due.due("of " + none, BAD, x.fine(none));
        }
    }
}
