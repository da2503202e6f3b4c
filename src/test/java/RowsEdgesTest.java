/** The edges that Terms 5 and promises 44 to 48 name. */
public final class RowsEdgesTest {
    private static final int BAD = RegretLocks.BAD, NO = RegretLocks.NO, FULL = RegretLocks.FULL, NONE = RegretLocks.NONE;
    private static final int NOTHING = RegretLocks.NOTHING;
    private static final int LEAST = Integer.MIN_VALUE, MOST = Integer.MAX_VALUE;

    public static void main(String[] args) {
        sixtyWait();
        howManyDaysTold();
        noImage();
        noneWaitThen();
        firstThatIsNot();
        missingOrTooMany();
        entriesByThen();
        daysOfNobody();
        fewerAtTheEnd();
        keptByTheImage();
        notKeptByTheImage();
        againAndAgain();
        newerImage();
        fullImages();
        counts();
        the512thCall();
        Due.end("RowsEdgesTest");
    }

    private static RegretLocks quiet() {
        RegretLocks x = new RegretLocks();
        x.rule(0, 0);
        x.rule(1, 0);
        return x;
    }

    private static void check(RegretLocks x, int due, int n, int... rows) {
        for (int v : rows) {
            x.tell(v);
        }
        Due.due("check(" + n + ") of " + java.util.Arrays.toString(rows), due, x.check(n));
        Due.due("none wait then", 0, x.count(6));
    }

    private static void sixtyWait() {
        Due.of("Promise 44: one more number waits: how many. FULL: 60 wait");
        RegretLocks x = new RegretLocks();
        Due.due("the least", 1, x.tell(LEAST));
        Due.due("the most", 2, x.tell(MOST));
        for (int i = 3; i <= 60; i++) {
            Due.due("tell " + i, i, x.tell(BAD));
        }
        Due.due("a 61st", FULL, x.tell(0));
        Due.due("and again", FULL, x.tell(0));
        Due.due("60", 60, x.count(6));
        x.check(1);
        Due.due("none", 0, x.count(6));
        Due.due("one again", 1, x.tell(0));
    }

    /** One who enters each day and is worn by nothing: so many entries, 6 of regrets. */
    private static RegretLocks steady() {
        RegretLocks x = quiet();
        x.one(0, 0, 1, 2, 3);
        x.lock(0, 0, 0, 0);
        Due.law(x, "wear 0");
        return x;
    }

    private static int[] rows(int first, int days) {
        int[] rows = new int[2 * days];
        for (int i = 0; i < days; i++) {
            rows[2 * i] = first + i;
            rows[2 * i + 1] = 6;
        }
        return rows;
    }

    private static void howManyDaysTold() {
        Due.of("Promise 45: THE DAYS TOLD of n (1 .. 30): 0");
        RegretLocks x = steady();
        x.keep();
        check(x, 0, 1, rows(1, 1));
        check(x, 0, 30, rows(1, 30));
        for (int n : new int[] {0, -1, 31, LEAST, MOST}) {
            check(x, BAD, n);
            check(x, BAD, n, rows(1, 1));
        }
    }

    private static void noImage() {
        Due.of("Promise 45: BAD; NO: there is no IMAGE");
        RegretLocks x = steady();
        check(x, NO, 1);
        check(x, NO, 30, rows(1, 30));
        check(x, BAD, 0, rows(1, 1));
        check(x, BAD, 31);
        x.keep();
        check(x, 0, 1, rows(1, 1));
    }

    private static void noneWaitThen() {
        Due.of("Promise 45: the numbers that wait (none do then, whatever is answered)");
        RegretLocks x = steady();
        x.tell(1);
        check(x, BAD, 0);
        check(x, NO, 1, 1);
        x.keep();
        check(x, 1, 1);
        check(x, 2, 1, 1);
        check(x, 0, 1, 1, 6);
        check(x, 3, 1, 1, 6, 0);
        check(x, 1, 1);
        Due.of("Promise 45: what waited for an earlier check is not there for the next one");
        check(x, 0, 2, 1, 6, 2, 6);
        check(x, 4, 2, 1, 6, 2);
        check(x, 3, 2, 1, 6);
        check(x, 2, 2, 1);
        check(x, 1, 2);
    }

    private static void firstThatIsNot() {
        Due.of("Promise 45: 1 and how many stand right ahead of the first that is not");
        RegretLocks x = steady();
        x.keep();
        for (int wrong = 0; wrong < 60; wrong++) {
            int[] rows = rows(1, 30);
            rows[wrong]++;
            for (int v : rows) {
                x.tell(v);
            }
            Due.due("wrong at " + wrong, wrong + 1, x.check(30));
            if (wrong % 6 == 5) {
                x = steady();
                x.keep();
            }
        }
        int[] twice = rows(1, 3);
        twice[1] = LEAST;
        twice[4] = MOST;
        check(x, 2, 3, twice);
    }

    private static void missingOrTooMany() {
        Due.of("Promise 45: (or is missing, or one too many)");
        for (int n = 1; n <= 30; n += 7) {
            for (int told = 0; told <= 60; told += 4) {
                RegretLocks x = steady();
                x.keep();
                for (int i = 0; i < told; i++) {
                    x.tell(i % 2 == 0 ? 1 + i / 2 : 6);
                }
                int due = told == 2 * n ? 0 : 1 + Math.min(told, 2 * n);
                Due.due(told + " told for " + n + " days", due, x.check(n));
            }
        }
        RegretLocks x = steady();
        x.keep();
        check(x, 2, 1, 1);
        check(x, 3, 1, 1, 6, 2);
        check(x, 3, 2, 1, 6);
        check(x, 4, 2, 1, 6, 2);
        check(x, 0, 2, 1, 6, 2, 6);
        check(x, 5, 2, 1, 6, 2, 6, 3);
    }

    private static void entriesByThen() {
        Due.of("Terms 5: THE DAYS TOLD: of n DAYS, one behind the other, by THE IMAGE");
        RegretLocks x = steady();
        x.days(10);
        x.keep();
        check(x, 0, 2, rows(11, 2));
        check(x, 1, 2, rows(1, 2));
        x.days(50);
        x.turns(0, 5);
        x.sets(0, 3, 99);
        x.set(0, 2, 99);
        Due.law(x, "wear 99");
        check(x, 0, 2, rows(11, 2));
        Due.due("now as it was", 60, x.town(0));
        Due.due("the day as it was", 60, x.count(1));
        Due.due("the lock as it was", 99, x.about(0, 3));
        x.back();
        Due.due("the image as it was", 10, x.town(0));
        Due.due("its day", 10, x.count(1));
    }

    private static void daysOfNobody() {
        RegretLocks x = quiet();
        x.keep();
        check(x, 0, 1, 0, 0);
        check(x, 0, 3, 0, 0, 0, 0, 0, 0);
        check(x, 1, 1, 1, 0);
        check(x, 1, 1);
        RegretLocks most = quiet();
        for (int i = 0; i < 8; i++) {
            most.one(0, 0, 99, 99, 99);
        }
        most.keep();
        check(most, 0, 2, 0, 8 * 297, 0, 8 * 297);
    }

    private static void fewerAtTheEnd() {
        Due.of("Promise 45: fewer, if THE DAY would be above 9999");
        RegretLocks x = steady();
        for (int i = 0; i < 99; i++) {
            x.days(100);
        }
        x.days(69);
        Due.due("the day", 9969, x.count(1));
        x.keep();
        check(x, 0, 30, rows(9970, 30));
        x.days(1);
        x.keep();
        check(x, 0, 29, rows(9971, 29));
        check(x, 0, 30, rows(9971, 29));
        check(x, 59, 30, rows(9971, 30));
        x.days(28);
        x.keep();
        check(x, 0, 1, rows(9999, 1));
        check(x, 0, 30, rows(9999, 1));
        check(x, 3, 2, rows(9999, 2));
        check(x, 1, 2);
        x.days(1);
        Due.due("the last day", 9999, x.count(1));
        check(x, 0, 1, rows(9999, 1));
        x.keep();
        check(x, 0, 1);
        check(x, 0, 30);
        check(x, 1, 1, 10000, 6);
        check(x, 1, 30, 0);
    }

    private static void keptByTheImage() {
        Due.of("Terms 5: AN IMAGE keeps all");
        RegretLocks x = new RegretLocks();
        x.rule(0, 0);
        x.rule(1, 1);
        x.one(5, 2, 3, 4, 5);
        x.lock(2, 6, 1, 7);
        Due.law(x, "fee e*9+h");
        x.seed(Draws.before(0, 50, 50));
        x.days(1);
        int z = x.count(8);
        Due.due("one is kept", 1, x.keep());
        x.turns(0, 1);
        x.set(0, 1, 0);
        for (int what = 2; what < 5; what++) {
            x.set(0, what, 99);
        }
        x.one(5, 3, 0, 0, 0);
        x.lock(3, 3, 0, 99);
        x.mends(0);
        for (int what = 0; what < 4; what++) {
            x.sets(0, what, 0);
        }
        x.rule(0, 99);
        x.rule(1, 99);
        Due.law(x, "fee 1");
        Due.law(x, "fine 1");
        Due.law(x, "wear 1");
        x.seed(Draws.before(0));
        x.days(7);
        Due.holds("all is otherwise", x.town(0) > 0 && x.town(1) > 1 && x.town(2) > 1 && x.count(1) == 8);
        Due.due("back", 1, x.back());
        int[] counts = {1, 1, 1, 0, 1, 1};
        for (int what = 0; what < counts.length; what++) {
            Due.due("count(" + what + ")", counts[what], x.count(what));
        }
        Due.due("z", z, x.count(8));
        int[] town = {0, 1, 1, 13, 1};
        for (int what = 0; what < town.length; what++) {
            Due.due("town(" + what + ")", town[what], x.town(what));
        }
        int[] told = {5, 2, 4, 4, 5};
        for (int what = 0; what < told.length; what++) {
            Due.due("told(" + what + ")", told[what], x.told(0, what));
        }
        int[] about = {2, 6, 1, 7, 1};
        for (int what = 0; what < about.length; what++) {
            Due.due("about(" + what + ")", about[what], x.about(0, what));
        }
        int[] why = {NONE, 0, NONE};
        for (int key = 0; key < why.length; key++) {
            Due.due("why(" + key + ")", why[key], x.why(key));
        }
        Due.due("fee", 1, x.fee());
        Due.due("nobody else", BAD, x.told(1, 0));
        Due.due("no other lock", BAD, x.about(1, 0));
        Due.due("no other text", BAD, x.textTold(1, 0));
    }

    private static void notKeptByTheImage() {
        Due.of("Terms 5: AN IMAGE keeps all but SHEETS, SLOTS, numbers that wait, THE TAPE");
        RegretLocks x = quiet();
        x.one(0, 0, 1, 1, 1);
        x.sheet(0, 0, 2);
        x.lay(0, 3, 5);
        x.tell(1);
        x.feed(0, 0, 0);
        x.keep();
        x.sheet(0, 1, 1);
        x.mark(0, 0, NONE);
        x.sheet(1, 0, 3);
        x.lay(0, 1, 0);
        x.lay(1, 3, 6);
        x.tell(2);
        x.trim(7);
        x.back();
        Due.due("numbers that wait", 2, x.count(6));
        Due.due("THE TAPE", 7, x.count(7));
        Due.due("a slot", 3, x.ask(0, 0));
        Due.due("another slot", 6, x.rest(1, 7));
        x.lay(2, 2, 0);
        Due.due("a sheet", RegretLocks.KIND, x.item(2, 0));
        Due.due("its places", RegretLocks.INDEX, x.item(2, 1));
        Due.due("another sheet", 1, x.mark(1, 2, 0));
        x.keep();
        x.sheet(1, -1, 0);
        x.lay(1, 0, 0);
        x.check(1);
        x.text();
        x.back();
        Due.due("a sheet stays missing", NOTHING, x.mark(1, 0, 0));
        Due.due("a slot stays without anything", NOTHING, x.rest(1, 7));
        Due.due("no number waits", 0, x.count(6));
        Due.due("the tape stays used up", 0, x.count(7));
    }

    private static void againAndAgain() {
        Due.of("Terms 5: all can become as it is (again and again)");
        RegretLocks x = new RegretLocks();
        Due.of("Promise 47: NO: there is none");
        Due.due("no image", NO, x.back());
        x.deal(4);
        Due.due("no image", NO, x.back());
        Due.due("four", 4, x.count(0));
        Due.of("Terms 5: all can become as it is (again and again)");
        x.lock(0, 1, 0, 0);
        Due.due("kept", 4, x.keep());
        int regrets = x.town(3);
        int z = x.count(8);
        int then = 0;
        for (int i = 0; i < 10; i++) {
            Due.due("back", 4, x.back());
            Due.due("regrets", regrets, x.town(3));
            Due.due("z", z, x.count(8));
            x.days(30);
            then = i == 0 ? x.town(3) : then;
            Due.due("the same days again", then, x.town(3));
            x.deal(i % 4 + 1);
        }
        Due.due("back twice", 4, x.back());
        Due.due("back twice", 4, x.back());
    }

    private static void newerImage() {
        Due.of("Promises 46, 47: AN IMAGE is kept: how many PEOPLE; all is as THE IMAGE");
        RegretLocks x = new RegretLocks();
        Due.due("nobody", 0, x.keep());
        x.one(0, 0, 0, 0, 0);
        Due.due("back to nobody", 0, x.back());
        Due.due("nobody is there", BAD, x.told(0, 0));
        x.one(2, 5, 1, 1, 1);
        x.one(3, 5, 1, 1, 1);
        Due.due("two", 2, x.keep());
        x.one(4, 5, 1, 1, 1);
        Due.due("back to two", 2, x.back());
        Due.due("the newer one counts", 2, x.told(0, 0));
        x.deal(8);
        Due.due("eight", 8, x.keep());
        Due.due("back to eight", 8, x.back());
        Due.due("no ninth", FULL, x.one(0, 0, 0, 0, 0));
    }

    private static void fullImages() {
        RegretLocks x = quiet();
        x.keep();
        for (int i = 0; i < 8; i++) {
            x.one(5, 0, 9, 9, 9);
        }
        for (int i = 0; i < 10; i++) {
            x.lock(0, 0, 0, 99);
        }
        for (int i = 0; i < 14; i++) {
            Due.law(x, "fine " + i);
        }
        x.days(3);
        Due.due("back to nothing", 0, x.back());
        Due.due("no locks", 0, x.count(2));
        Due.due("no texts", 0, x.count(5));
        for (int i = 0; i < 10; i++) {
            Due.due("a lock again", i, x.lock(1, 1, 1, 1));
            Due.due("not jammed", 0, x.about(i, 4));
            Due.due("as it was made", 1, x.about(i, 3));
        }
        for (int i = 0; i < 14; i++) {
            Due.due("a text again", i, Due.text(x, "fee " + (50 - i)));
            Due.due("of its own key", 1, x.textTold(i, 0));
        }
        Due.due("the last counts", 37, x.fee());
        Due.due("none for fine", NONE, x.why(2));
        for (int i = 0; i < 8; i++) {
            Due.due("one again", i, x.one(0, 1, i, 0, 0));
            Due.due("as it came", i, x.fine(i));
        }
    }

    private static void counts() {
        Due.of("Promise 48: 0 .. 8; BAD");
        RegretLocks x = new RegretLocks();
        for (int what : new int[] {-1, 9, LEAST, MOST}) {
            Due.due("count(" + what + ")", BAD, x.count(what));
        }
        x.seed(LEAST);
        Due.due("z", LEAST, x.count(8));
        x.seed(BAD);
        Due.due("z that looks like a refusal", BAD, x.count(8));
        Due.due("and what it was", BAD, x.seed(0));
    }

    /** The dearest calls, as many as there may be, and the last one answers as the first. */
    private static void the512thCall() {
        Due.of("What it is: an object is used for at most 512 calls");
        RegretLocks x = new RegretLocks();
        x.deal(8);
        for (int i = 0; i < 10; i++) {
            x.lock(i % 8, i * 3 % 8, i % 3, 4 * i);
        }
        int calls = 11;
        int most = x.becomes(0, 60, 1);
        int best = x.freed(60, 0);
        calls += 2;
        for (; calls < 510; calls += 2) {
            Due.due("becomes", most, x.becomes(0, 60, 1));
            Due.due("freed", best, x.freed(60, 0));
        }
        for (; calls < 511; calls++) {
            x.at(0);
        }
        Due.due("so many calls", 511, calls);
        Due.due("the 512th", most, x.becomes(0, 60, 1));
    }
}
