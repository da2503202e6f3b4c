/** Promises 23 to 29: what will be. */
public final class ThoughtTest {
    private static final int BAD = RegretLocks.BAD, NONE = RegretLocks.NONE, NOTHING = RegretLocks.NOTHING;

    public static void main(String[] args) {
        promise23Behind();
        promise24Enters();
        promise24TheLastOfThem();
        promise25Freed();
        promise26Becomes();
        promise27Like();
        promise28Fee();
        promise29Fine();
        onlyThought();
        Due.end("ThoughtTest");
    }

    private static RegretLocks busy(int seed) {
        RegretLocks x = new RegretLocks();
        x.seed(seed);
        x.deal(7);
        for (int i = 0; i < 10; i++) {
            x.lock(i % 8, (i * 3 + 1) % 8, i % 3, 7 * i % 40);
        }
        return x;
    }

    private static void promise23Behind() {
        for (int n = 0; n <= 100; n += 20) {
            RegretLocks x = busy(n);
            int[] thought = new int[10];
            for (int what = 0; what < 10; what++) {
                thought[what] = x.behind(n, what);
            }
            if (n > 0) {
                x.days(n);
            }
            for (int what = 0; what < 10; what++) {
                int due = what < 3 ? x.town(what) : x.told(what - 3, 1);
                Due.due("behind(" + n + ", " + what + ")", due, thought[what]);
            }
        }
        RegretLocks x = busy(5);
        int[][] wrong = {{-1, 0}, {101, 0}, {0, -1}, {0, 10}, {0, Integer.MAX_VALUE}, {Integer.MIN_VALUE, 3}};
        for (int[] w : wrong) {
            Due.due("behind none", BAD, x.behind(w[0], w[1]));
        }
        Due.due("nobody's room", BAD, new RegretLocks().behind(0, 3));
        Due.due("entries without anybody", 0, new RegretLocks().behind(100, 0));
    }

    private static void promise24Enters() {
        for (int seed = 0; seed < 10; seed++) {
            RegretLocks x = busy(seed);
            int[][] thought = new int[7][8];
            for (int one = 0; one < 7; one++) {
                for (int room = 0; room < 8; room++) {
                    thought[one][room] = x.enters(one, room);
                }
            }
            int[][] due = new int[7][8];
            for (int[] row : due) {
                java.util.Arrays.fill(row, NONE);
            }
            for (int day = 0; day <= 200; day++) {
                for (int one = 0; one < 7; one++) {
                    int room = x.told(one, 1);
                    due[one][room] = due[one][room] == NONE ? day : due[one][room];
                }
                x.days(1);
            }
            for (int one = 0; one < 7; one++) {
                for (int room = 0; room < 8; room++) {
                    Due.due("enters(" + one + ", " + room + ")", due[one][room], thought[one][room]);
                }
            }
        }
        RegretLocks x = busy(1);
        int[][] wrong = {{-1, 0}, {7, 0}, {0, -1}, {0, 8}};
        for (int[] w : wrong) {
            Due.due("enters none", BAD, x.enters(w[0], w[1]));
        }
    }

    /** Shut in, one is sorrier by 1 each third day: of sort 2 by 1 behind 3 days, by 66 behind 198. */
    private static void promise24TheLastOfThem() {
        RegretLocks x = new RegretLocks();
        x.rule(0, 0);
        x.rule(1, 0);
        x.one(0, 0, 0, 0, 0);
        x.lock(0, 1, 0, 67);
        // of sort 0 it has 67 behind day 198, the 199th: the 200th lets it in
        Due.due("behind 200 days", 200, x.enters(0, 1));
        x.sets(0, 3, 68);
        Due.due("behind more than 200 days", NONE, x.enters(0, 1));
        x.sets(0, 2, 1);
        x.sets(0, 3, 66);
        Due.due("behind 198 days", 198, x.enters(0, 1));
        x.sets(0, 3, 67);
        Due.due("behind 201 days", NONE, x.enters(0, 1));
        Due.due("it is in it now", 0, x.enters(0, 0));
    }

    private static void promise25Freed() {
        RegretLocks x = new RegretLocks();
        Due.due("no locks", NONE, x.freed(1, 0));
        Due.due("no locks", NONE, x.freed(60, 1));
        Due.due("BAD stands ahead of NONE", BAD, x.freed(0, 0));
        x.rule(0, 0);
        x.rule(1, 0);
        x.one(0, 0, 1, 1, 1);
        x.one(2, 0, 2, 2, 2);
        x.lock(1, 2, 0, 99);
        x.lock(0, 3, 1, 99);
        x.lock(0, 0, 2, 99);
        x.lock(0, 0, 0, 99);
        Due.due("of several the least", 1, x.freed(1, 0));
        Due.due("entries by it", 2, x.freed(1, 1));
        Due.due("a loop is better for two", 2, x.freed(2, 0));
        Due.due("entries by that", 120, x.freed(60, 1));
        Due.due("still set to 99", 99, x.about(2, 3));
        x.set(0, 1, 7);
        x.set(1, 1, 7);
        x.set(0, 2, 1);
        Due.due("with none any better, the least", 0, x.freed(9, 0));
        Due.due("entries with none", 0, x.freed(9, 1));
        x.set(1, 1, 0);
        x.sets(2, 3, 0);
        x.days(3);
        Due.due("entries by now, too", 3 + 5, x.freed(5, 1));
        int[][] wrong = {{0, 0}, {61, 0}, {1, -1}, {1, 2}, {-1, 1}};
        for (int[] w : wrong) {
            Due.due("a wrong freed", BAD, x.freed(w[0], w[1]));
        }
    }

    private static void promise26Becomes() {
        RegretLocks x = new RegretLocks();
        x.rule(0, 0);
        x.rule(1, 0);
        Due.due("nobody", BAD, x.becomes(0, 1, 0));
        x.one(2, 0, 10, 10, 10);
        Due.due("of several the least", 0, x.becomes(0, 5, 0));
        Due.due("no entries by any", 0, x.becomes(0, 5, 1));
        x.lock(0, 0, 0, 11);
        Due.due("a guilty one", 1, x.becomes(0, 8, 0));
        Due.due("its entries", 8, x.becomes(0, 8, 1));
        x.sets(0, 3, 38);
        Due.due("only a general enters", 3, x.becomes(0, 1, 0));
        Due.due("once", 1, x.becomes(0, 1, 1));
        Due.due("it is happy still", 2, x.told(0, 0));
        x.sets(0, 3, 0);
        Due.due("anyone would do", 0, x.becomes(0, 60, 0));
        Due.due("entries by that", 60, x.becomes(0, 60, 1));
        int[][] wrong = {{-1, 1, 0}, {1, 1, 0}, {0, 0, 0}, {0, 61, 0}, {0, 1, -1}, {0, 1, 2}};
        for (int[] w : wrong) {
            Due.due("a wrong becomes", BAD, x.becomes(w[0], w[1], w[2]));
        }
    }

    private static void promise27Like() {
        RegretLocks x = new RegretLocks();
        Due.due("no such sheet", BAD, x.like(-1, 0));
        Due.due("no such sheet", BAD, x.like(4, 0));
        Due.due("BAD stands ahead of NOTHING", BAD, x.like(0, 2));
        Due.due("BAD stands ahead of NOTHING", BAD, x.like(0, -1));
        Due.due("a missing sheet", NOTHING, x.like(0, 1));
        x.sheet(0, 1, 5);
        Due.due("no people", NONE, x.like(0, 0));
        Due.due("no people", NONE, x.like(0, 1));
        x.rule(0, 0);
        x.rule(1, 0);
        x.one(0, 0, 0, 0, 0);
        x.one(0, 1, 0, 0, 0);
        x.one(0, 3, 0, 0, 0);
        x.lock(0, 1, 0, 0);
        x.lock(1, 2, 0, 0);
        x.lock(2, 4, 0, 0);
        // rooms by days: 0 1 2 4 4; 1 2 4 4 4; 3 3 3 3 3
        marks(x, 0, 1, 1, 4, 4);
        Due.due("the first one", 0, x.like(0, 0));
        Due.due("four places", 4, x.like(0, 1));
        marks(x, 1, NONE, NONE, 4, 4);
        Due.due("what is no number does not count", 1, x.like(0, 0));
        Due.due("three places", 3, x.like(0, 1));
        marks(x, 5, 5, 5, -99999, 99999);
        Due.due("at no place: the least", 0, x.like(0, 0));
        Due.due("at no place", 0, x.like(0, 1));
        marks(x, 3, 3, 7, 7, 7);
        Due.due("the last one", 2, x.like(0, 0));
        marks(x, 3, 2, 7, 7, 7);
        Due.due("of several the least", 1, x.like(0, 0));
        x.sheet(0, 0, 0);
        Due.due("no places: the least", 0, x.like(0, 0));
        Due.due("no places", 0, x.like(0, 1));
        Due.due("only thought", 0, x.count(1));
    }

    private static void marks(RegretLocks x, int... values) {
        for (int i = 0; i < values.length; i++) {
            x.mark(0, i, values[i]);
        }
    }

    private static void promise28Fee() {
        RegretLocks x = new RegretLocks();
        Due.due("fee without anything", 0, x.fee());
        x.rule(0, 0);
        x.rule(1, 0);
        x.one(0, 0, 9, 9, 9);
        x.one(0, 1, 9, 9, 9);
        x.lock(0, 0, 0, 0);
        x.days(7);
        Due.due("fee without a text", 7, x.fee());
        x.set(1, 1, 0);
        x.days(2);
        Due.due("fee without a text", 11, x.fee());
        Due.text(x, "fee e*100+h");
        Due.due("fee by entries and shut", 1107, x.fee());
        Due.text(x, "fee 0-9999*9999*9999");
        Due.due("fee wraps", -(9999 * 9999 * 9999), x.fee());
        Due.text(x, "wear 1");
        Due.due("another key's text does not count", -(9999 * 9999 * 9999), x.fee());
        Due.text(x, "fee 5");
        Due.due("the last one counts", 5, x.fee());
    }

    private static void promise29Fine() {
        RegretLocks x = new RegretLocks();
        Due.due("no such one", BAD, x.fine(0));
        x.one(3, 6, 10, 20, 30);
        x.one(5, 2, 99, 99, 99);
        Due.due("fine without a text", 60, x.fine(0));
        Due.due("fine without a text", 297, x.fine(1));
        Due.text(x, "fine r*10-o");
        Due.due("fine by regrets and room", 594, x.fine(0));
        Due.due("fine by regrets and room", 2968, x.fine(1));
        Due.due("no such one", BAD, x.fine(2));
        Due.due("no such one", BAD, x.fine(-1));
    }

    private static void onlyThought() {
        RegretLocks x = busy(12);
        x.sheet(0, 0, 24);
        int z = x.count(8);
        int regrets = x.town(3);
        x.behind(100, 0);
        x.enters(0, 7);
        x.freed(60, 0);
        x.becomes(0, 60, 0);
        x.like(0, 0);
        x.reach(0);
        x.pardoned(0);
        Due.due("z as it is", z, x.count(8));
        Due.due("the day as it is", 0, x.count(1));
        Due.due("regrets as they are", regrets, x.town(3));
        Due.due("entries as they are", 0, x.town(0));
        Due.due("jams as they are", 0, x.town(4));
    }
}
