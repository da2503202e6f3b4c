/** The edges that Terms 1 and promises 1 to 14 name. */
public final class PeopleEdgesTest {
    private static final int BAD = RegretLocks.BAD, NO = RegretLocks.NO, FULL = RegretLocks.FULL, KIND = RegretLocks.KIND;
    private static final int LEAST = Integer.MIN_VALUE, MOST = Integer.MAX_VALUE;

    public static void main(String[] args) {
        rooms();
        sorts();
        eightPeople();
        regrets();
        kinds();
        tenLocks();
        settings();
        notJammedAtFirst();
        chances();
        atFirst();
        feels();
        plainIsHeld();
        wearsAreCut();
        worth();
        opens();
        goingThrough();
        setsByBits();
        deals();
        seeds();
        Due.end("PeopleEdgesTest");
    }

    private static void rooms() {
        Due.of("Terms 1: ROOMS are 0 .. 7");
        RegretLocks x = new RegretLocks();
        Due.due("one in room 0", 0, x.one(0, 0, 0, 0, 0));
        Due.due("one in room 7", 1, x.one(0, 7, 0, 0, 0));
        Due.due("a lock from 0 to 7", 0, x.lock(0, 7, 0, 0));
        Due.due("a lock from 7 to 0", 1, x.lock(7, 0, 0, 0));
        Due.due("at 0", 1, x.at(0));
        Due.due("at 7", 2, x.at(7));
        Due.due("set to 7", 0, x.set(0, 1, 7));
        Due.due("set to 0", 7, x.set(0, 1, 0));
        Due.due("from 7", 0, x.sets(0, 0, 7));
        Due.due("from 0", 7, x.sets(0, 0, 0));
        Due.due("to 0", 7, x.sets(0, 1, 0));
        Due.due("to 7", 0, x.sets(0, 1, 7));
        for (int room : new int[] {-1, 8, LEAST, MOST}) {
            Due.due("one in room " + room, BAD, x.one(0, room, 0, 0, 0));
            Due.due("a lock from " + room, BAD, x.lock(room, 0, 0, 0));
            Due.due("a lock to " + room, BAD, x.lock(0, room, 0, 0));
            Due.due("at " + room, BAD, x.at(room));
            Due.due("set to " + room, BAD, x.set(0, 1, room));
            Due.due("from " + room, BAD, x.sets(0, 0, room));
            Due.due("to " + room, BAD, x.sets(0, 1, room));
        }
    }

    private static void sorts() {
        Due.of("Terms 1: regrets are of SORTS 0 .. 2");
        RegretLocks x = new RegretLocks();
        x.one(0, 0, 11, 12, 13);
        for (int sort = 0; sort < 3; sort++) {
            Due.due("a lock of sort " + sort, sort, x.lock(0, 0, sort, 0));
            Due.due("the regret of sort " + sort, 11 + sort, x.told(0, 2 + sort));
            Due.due("a lock becomes of sort " + sort, sort == 0 ? 0 : sort - 1, x.sets(0, 2, sort));
        }
        for (int sort : new int[] {-1, 3, LEAST, MOST}) {
            Due.due("a lock of sort " + sort, BAD, x.lock(0, 0, sort, 0));
            Due.due("a lock becomes of sort " + sort, BAD, x.sets(0, 2, sort));
        }
        Due.due("a lock of sort 2 still", 2, x.about(0, 2));
    }

    private static void eightPeople() {
        Due.of("Terms 1: PEOPLE, 8 at most, numbered from 0");
        RegretLocks x = new RegretLocks();
        for (int i = 0; i < 8; i++) {
            Due.due("there is no one " + i + " yet", BAD, x.told(i, 0));
            Due.due("one " + i, i, x.one(i % 6, i, i, 0, 0));
            Due.due("one " + i + " is there", i, x.told(i, 2));
            Due.due("so many", i + 1, x.count(0));
        }
        Due.due("a ninth", FULL, x.one(0, 0, 0, 0, 0));
        Due.due("there is no ninth", BAD, x.told(8, 0));
        Due.due("still eight", 8, x.count(0));
        RegretLocks y = new RegretLocks();
        y.deal(7);
        Due.due("an eighth behind seven drawn", 7, y.one(0, 0, 0, 0, 0));
        Due.due("a ninth behind them", FULL, y.one(0, 0, 0, 0, 0));
        y.keep();
        y.back();
        Due.due("a ninth behind a way back", FULL, y.one(0, 0, 0, 0, 0));
    }

    private static void regrets() {
        Due.of("Terms 1: REGRETS (of each SORT one, 0 .. 99)");
        RegretLocks x = new RegretLocks();
        Due.due("none", 0, x.one(0, 0, 0, 0, 0));
        Due.due("all", 1, x.one(0, 0, 99, 99, 99));
        for (int v : new int[] {-1, 100, LEAST, MOST}) {
            Due.due(v + " of sort 0", BAD, x.one(0, 0, v, 0, 0));
            Due.due(v + " of sort 1", BAD, x.one(0, 0, 0, v, 0));
            Due.due(v + " of sort 2", BAD, x.one(0, 0, 0, 0, v));
        }
        for (int what = 2; what < 5; what++) {
            Due.due("from 0 to 99", 0, x.set(0, what, 99));
            Due.due("from 99 to 0", 99, x.set(0, what, 0));
            Due.due("from 99 to 0", 99, x.set(1, what, 0));
            for (int v : new int[] {-1, 100, LEAST, MOST}) {
                Due.due("set to " + v, BAD, x.set(0, what, v));
            }
        }
        Due.due("all are 0", 0, x.town(3));
        Due.of("Promise 6: what 1, 2 .. 4");
        for (int what : new int[] {0, 5, -1, LEAST, MOST}) {
            Due.due("set what " + what, BAD, x.set(0, what, 0));
        }
    }

    private static void kinds() {
        Due.of("Terms 1: KINDS 0 .. 5, under one another");
        RegretLocks x = new RegretLocks();
        Due.due("a one", 0, x.one(0, 0, 0, 0, 0));
        Due.due("a false one", 1, x.one(5, 0, 0, 0, 0));
        Due.due("turns to 5", 0, x.turns(0, 5));
        Due.due("turns to 0", 5, x.turns(0, 0));
        for (int kind : new int[] {-1, 6, LEAST, MOST}) {
            Due.due("one of kind " + kind, BAD, x.one(kind, 0, 0, 0, 0));
            Due.due("turns to kind " + kind, BAD, x.turns(0, kind));
            Due.due("as kind " + kind, BAD, x.as(0, kind));
        }
        Due.of("Promise 4: KIND: it is not of that KIND, nor of one under it");
        int[] above = {-1, 0, 0, 1, 2, 0};
        for (int kind = 0; kind < 6; kind++) {
            x.turns(0, kind);
            int under = 0;
            for (int step = kind; step >= 0; step = above[step]) {
                under |= 1 << step;
            }
            for (int other = 0; other < 6; other++) {
                Due.due(kind + " as " + other, (under >> other & 1) == 1 ? 0 : KIND, x.as(0, other));
            }
        }
        Due.of("Promise 3: what 0 .. 8");
        for (int what : new int[] {-1, 9, LEAST, MOST}) {
            Due.due("told what " + what, BAD, x.told(0, what));
        }
    }

    private static void tenLocks() {
        Due.of("Terms 1: LOCKS, 10 at most, numbered from 0");
        RegretLocks x = new RegretLocks();
        for (int i = 0; i < 10; i++) {
            Due.due("there is no lock " + i + " yet", BAD, x.about(i, 0));
            Due.due("lock " + i, i, x.lock(i % 8, 0, 0, 9 * i));
            Due.due("lock " + i + " is there", 9 * i, x.about(i, 3));
        }
        Due.due("an eleventh", FULL, x.lock(0, 0, 0, 0));
        Due.due("there is no eleventh", BAD, x.about(10, 0));
        Due.due("ten", 10, x.count(2));
        Due.of("Promise 8: what 0 .. 5");
        for (int what : new int[] {-1, 6, LEAST, MOST}) {
            Due.due("about what " + what, BAD, x.about(0, what));
        }
        Due.of("Promise 9: what 0 .. 3");
        for (int what : new int[] {-1, 4, LEAST, MOST}) {
            Due.due("sets what " + what, BAD, x.sets(0, what, 0));
        }
    }

    private static void settings() {
        Due.of("Terms 1: SET 0 .. 99");
        RegretLocks x = new RegretLocks();
        Due.due("set to 0", 0, x.lock(0, 0, 0, 0));
        Due.due("set to 99", 1, x.lock(0, 0, 0, 99));
        Due.due("from 0 to 99", 0, x.sets(0, 3, 99));
        Due.due("from 99 to 0", 99, x.sets(1, 3, 0));
        for (int v : new int[] {-1, 100, LEAST, MOST}) {
            Due.due("a lock set to " + v, BAD, x.lock(0, 0, 0, v));
            Due.due("sets to " + v, BAD, x.sets(0, 3, v));
        }
        Due.due("99 still", 99, x.about(0, 3));
    }

    /** Lets the lock from a false one's room be jammed; the day is 0 then. */
    private static RegretLocks jammed() {
        RegretLocks x = new RegretLocks();
        x.rule(0, 0);
        x.rule(1, 0);
        x.one(5, 0, 0, 0, 0);
        x.one(0, 1, 99, 99, 99);
        x.lock(0, 0, 0, 0);
        x.seed(Draws.before(0));
        x.days(1);
        return x;
    }

    private static void notJammedAtFirst() {
        Due.of("Terms 1: JAMMED or not (not at first)");
        RegretLocks x = jammed();
        Due.due("one that was jammed", 1, x.about(0, 4));
        for (int i = 1; i < 10; i++) {
            x.lock(0, 0, 0, 0);
            Due.due("a new one", 0, x.about(i, 4));
        }
        Due.of("Promise 8: those for whom it OPENS");
        Due.due("none, through what is jammed", 0, x.about(0, 5));
        Due.due("all, through what is not", 3, x.about(1, 5));
        Due.of("Promise 10: NO: it was not");
        Due.due("a new one", NO, x.mends(9));
        Due.due("the jammed one", 1, x.mends(0));
        Due.due("once more", NO, x.mends(0));
        Due.due("all, through what is mended", 3, x.about(0, 5));
        Due.of("Promise 10: BAD");
        for (int lock : new int[] {-1, 10, LEAST, MOST}) {
            Due.due("mends " + lock, BAD, x.mends(lock));
        }
        Due.of("Promise 9: FROM, TO, SORT, SET becomes v, it stays JAMMED");
        RegretLocks y = jammed();
        for (int what = 0; what < 4; what++) {
            y.sets(0, what, 1);
        }
        Due.due("jammed still", 1, y.about(0, 4));
    }

    private static void chances() {
        Due.of("Terms 1: DEEDS 0 .. 100 (30 at first), PARDONS 0 .. 100 (10)");
        RegretLocks x = new RegretLocks();
        int[] first = {30, 10};
        for (int what = 0; what < 2; what++) {
            Due.due("at first", first[what], x.count(3 + what));
            Due.due("to 100", first[what], x.rule(what, 100));
            Due.due("to 0", 100, x.rule(what, 0));
            for (int v : new int[] {-1, 101, LEAST, MOST}) {
                Due.due("to " + v, BAD, x.rule(what, v));
            }
            Due.due("0 still", 0, x.rule(what, first[what]));
        }
        Due.of("Promise 11: what 0, 1");
        for (int what : new int[] {-1, 2, LEAST, MOST}) {
            Due.due("rule what " + what, BAD, x.rule(what, 50));
        }
        Due.due("deeds stay", 30, x.count(3));
        Due.due("pardons stay", 10, x.count(4));
    }

    private static void atFirst() {
        Due.of("Promise 1: as told; no PEOPLE, no LOCKS");
        RegretLocks x = new RegretLocks();
        int[] counts = {0, 0, 0, 30, 10, 0, 0, 0, 1};
        for (int what = 0; what < counts.length; what++) {
            Due.due("count(" + what + ")", counts[what], x.count(what));
        }
        for (int what = 0; what < 5; what++) {
            Due.due("town(" + what + ")", 0, x.town(what));
        }
        for (int room = 0; room < 8; room++) {
            Due.due("at " + room, 0, x.at(room));
        }
        for (int key = 0; key < 3; key++) {
            Due.due("why(" + key + ")", RegretLocks.NONE, x.why(key));
        }
        Due.due("fee", 0, x.fee());
        for (int sheet = 0; sheet < 4; sheet++) {
            Due.due("sheet " + sheet + " is MISSING", RegretLocks.NOTHING, x.reads(sheet));
        }
        for (int slot = 0; slot < 5; slot++) {
            Due.due("slot " + slot + " holds nothing", RegretLocks.NOTHING, x.rest(slot, 1));
        }
        Due.due("no image", NO, x.back());
    }

    private static void feels() {
        Due.of("Terms 1: FEELS, half (cut)");
        int[] regrets = {0, 1, 2, 98, 99};
        int[][] due = {{0, 1, 2, 98, 99}, {9, 10, 11, 107, 108}, {0, 0, 1, 49, 49}, {18, 20, 22, 214, 216}, {3, 3, 4, 52, 52},
            {0, 0, 0, 0, 0}};
        RegretLocks x = new RegretLocks();
        for (int kind = 0; kind < 6; kind++) {
            x.one(kind, 0, 0, 0, 0);
            for (int i = 0; i < regrets.length; i++) {
                for (int sort = 0; sort < 3; sort++) {
                    x.set(kind, 2 + sort, regrets[i]);
                    Due.due("kind " + kind + " of " + regrets[i], due[kind][i], x.told(kind, 5 + sort));
                }
            }
        }
    }

    private static int worn(int kind, int regret, String law) {
        RegretLocks x = new RegretLocks();
        if (!law.isEmpty()) {
            Due.law(x, law);
        }
        x.one(kind, 0, 50, 51, regret);
        x.lock(0, 1, 2, 0);
        Due.due("goes through", 1, x.passes(0, 0));
        Due.due("no other regret is worn", 101, x.told(0, 2) + x.told(0, 3));
        return regret - x.told(0, 4);
    }

    private static void plainIsHeld() {
        Due.of("Terms 1: PLAIN wear: what wear gives, held within 0 .. 99 (without a TEXT: 2)");
        Due.due("without a text", 2, worn(0, 99, ""));
        Due.due("0", 0, worn(0, 99, "wear 0"));
        Due.due("1", 1, worn(0, 99, "wear 1"));
        Due.due("-1", 0, worn(0, 99, "wear 0-1"));
        Due.due("-2 for one who wears twice as much", 0, worn(2, 99, "wear 0-2"));
        Due.due("98", 98, worn(0, 99, "wear 98"));
        Due.due("99", 99, worn(0, 99, "wear 99"));
        Due.due("the half of 99", 49, worn(1, 99, "wear 99"));
        Due.due("the half of 100, held to 99", 49, worn(1, 99, "wear 100"));
        Due.due("the half of 200, held to 99", 49, worn(1, 99, "wear 200"));
        Due.due("the half of the most", 49, worn(3, 99, "wear 32*8192*8192-1"));
        Due.due("the least", 0, worn(0, 99, "wear 32*8192*8192"));
    }

    private static void wearsAreCut() {
        Due.of("Terms 1: WEARS, half (cut), twice, and 1");
        int[][] due = {{0, 1, 3, 99}, {0, 0, 1, 49}, {0, 2, 6, 99}, {0, 0, 1, 49}, {1, 3, 7, 99}, {0, 1, 3, 99}};
        int[] plain = {0, 1, 3, 99};
        for (int kind = 0; kind < 6; kind++) {
            for (int i = 0; i < plain.length; i++) {
                Due.due("kind " + kind + ", plain " + plain[i], due[kind][i], worn(kind, 99, "wear " + plain[i]));
            }
        }
    }

    private static void worth() {
        Due.of("Terms 1: WORTH");
        int[] least = {0, 4, 300, 8, 295, 6};
        int[] most = {297, 301, 3, 602, -2, 6};
        RegretLocks x = new RegretLocks();
        for (int kind = 0; kind < 6; kind++) {
            x.one(kind, 0, 0, 0, 0);
            Due.due("of the least sorry, kind " + kind, least[kind], x.told(kind, 8));
            for (int what = 2; what < 5; what++) {
                x.set(kind, what, 99);
            }
            Due.due("of the sorriest, kind " + kind, most[kind], x.told(kind, 8));
        }
    }

    private static void opens() {
        Due.of("Terms 1: a LOCK OPENS for one who FEELS as much as it is SET to, or more");
        int[] feels = {40, 49, 20, 98, 23, 0};
        for (int kind = 0; kind < 6; kind++) {
            RegretLocks x = new RegretLocks();
            x.one(kind, 3, 99, kind == 5 ? 99 : 40, 99);
            x.lock(3, 4, 1, feels[kind]);
            Due.due("just as much, kind " + kind, 1, x.about(0, 5));
            x.sets(0, 3, feels[kind] + 1);
            Due.due("one less, kind " + kind, 0, x.about(0, 5));
            Due.due("one less, kind " + kind, NO, x.passes(0, 0));
            x.sets(0, 3, feels[kind]);
            Due.due("just as much, kind " + kind, 4, x.passes(0, 0));
        }
    }

    private static void goingThrough() {
        Due.of("Terms 1: that REGRET is less by what it WEARS (0 at least)");
        for (int regret = 0; regret < 5; regret++) {
            Due.due("of " + regret + " two are worn", Math.min(2, regret), worn(0, regret, ""));
            Due.due("of " + regret + " five are worn by a child", regret, worn(4, regret, ""));
        }
        Due.due("one of one", 1, worn(0, 1, "wear 99"));
        Due.due("198 of 99", 99, worn(2, 99, "wear 99"));
    }

    private static void setsByBits() {
        Due.of("Terms: sets are told by bits");
        RegretLocks x = new RegretLocks();
        for (int i = 0; i < 8; i++) {
            x.one(1, 7, 99, 99, 99);
        }
        for (int i = 0; i < 10; i++) {
            x.lock(7, i % 8, i % 3, 99);
        }
        Due.due("all eight in a room", 255, x.at(7));
        Due.due("none in a room", 0, x.at(0));
        Due.due("it opens for all eight", 255, x.about(9, 5));
        x.set(7, 2, 0);
        Due.due("for all but the last", 127, x.about(9, 5));
        Due.due("all eight rooms are reached", 255, x.reach(0));
        x.set(7, 1, 0);
        Due.due("the last alone", 128, x.at(0));
    }

    private static void deals() {
        Due.of("Promise 13: n (1 .. 8) of them");
        for (int n : new int[] {0, -1, 9, LEAST, MOST}) {
            RegretLocks x = new RegretLocks();
            Due.due("deal(" + n + ")", BAD, x.deal(n));
            Due.due("no draw", 1, x.count(8));
        }
        Due.of("Promise 13: as many as there is room for (no draws for others): how many came");
        for (int there = 0; there <= 8; there++) {
            for (int n = 1; n <= 8; n++) {
                RegretLocks x = new RegretLocks();
                for (int i = 0; i < there; i++) {
                    x.one(0, 0, 0, 0, 0);
                }
                int came = Math.min(n, 8 - there);
                Due.due("deal(" + n + ") to " + there, came, x.deal(n));
                Due.due("so many", there + came, x.count(0));
                Draws draws = new Draws(1);
                for (int i = 0; i < 5 * came; i++) {
                    draws.rest(1);
                }
                Due.due("five draws for each", draws.z(), x.count(8));
            }
        }
    }

    private static void seeds() {
        Due.of("Terms 2: z becomes z * 1103515245 + 12345 (an int); it gives z >>> 8");
        for (int z : new int[] {0, 1, -1, LEAST, MOST, 1103515245, -1103515245}) {
            RegretLocks x = new RegretLocks();
            Due.due("what it was", 1, x.seed(z));
            Due.due("z", z, x.count(8));
            x.deal(8);
            Draws draws = new Draws(z);
            int[] by = {6, 8, 60, 60, 60};
            for (int one = 0; one < 8; one++) {
                for (int what = 0; what < 5; what++) {
                    Due.due("drawn from " + z, draws.rest(by[what]), x.told(one, what));
                }
            }
            Due.due("z wrapped", draws.z(), x.seed(z));
        }
    }
}
