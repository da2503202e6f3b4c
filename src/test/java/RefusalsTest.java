import java.util.function.ToIntFunction;

/** Terms: a refused call answers what stands first with it, and changes nothing. Each refusal of each promise. */
public final class RefusalsTest {
    private static final int BAD = RegretLocks.BAD, NO = RegretLocks.NO, FULL = RegretLocks.FULL, NONE = RegretLocks.NONE;
    private static final int NOTHING = RegretLocks.NOTHING, KIND = RegretLocks.KIND, INDEX = RegretLocks.INDEX, SIZE = RegretLocks.SIZE;
    private static final int LEAST = Integer.MIN_VALUE, MOST = Integer.MAX_VALUE;
    private static final Twins NEW = new Twins(x -> { });
    private static final Twins SOME = new Twins(RefusalsTest::some);
    private static final Twins CROWDED = new Twins(RefusalsTest::full);

    public static void main(String[] args) {
        pasts();
        people();
        kinds();
        locks();
        lot();
        days();
        ways();
        thought();
        tape();
        texts();
        sheets();
        copies();
        slots();
        rows();
        onlyTold();
        Due.end("RefusalsTest");
    }

    /** Something of everything; lock 0 is jammed, the image is of the morning of that day. */
    private static void some(RegretLocks x) {
        x.rule(0, 0);
        x.rule(1, 0);
        x.one(0, 1, 10, 20, 30);
        x.one(5, 0, 1, 2, 3);
        x.one(3, 2, 40, 50, 60);
        x.lock(0, 4, 0, 0);
        x.lock(2, 2, 1, 99);
        Due.law(x, "wear 3");
        Due.law(x, "fee e*7+h");
        x.seed(Draws.before(0));
        x.keep();
        x.tell(1);
        x.tell(217);
        x.days(1);
        x.sheet(0, 1, 3);
        x.mark(0, 0, 7);
        x.mark(0, 1, NONE);
        x.sheet(1, 0, 2);
        x.mark(1, 1, -8);
        x.sheet(3, 0, 0);
        x.lay(1, 1, 2);
        x.lay(2, 2, 0);
        x.lay(3, 3, 17);
        Due.feed(x, "fee 12+e");
    }

    /** As many of everything as there may be; the image is of an early day. */
    private static void full(RegretLocks x) {
        x.one(4, 7, 99, 99, 99);
        x.lock(7, 7, 2, 40);
        x.keep();
        x.seed(11);
        x.deal(8);
        for (int i = 1; i < 10; i++) {
            x.lock(i % 8, i * 3 % 8, i % 3, 10 * i);
        }
        for (int i = 0; i < 14; i++) {
            Due.law(x, "fine " + i);
        }
        x.days(3);
        for (int i = 0; i < 60; i++) {
            x.tell(i);
        }
        Due.feed(x, "fee " + "1234+".repeat(18) + "7 ");
    }

    private static void pasts() {
        RegretLocks x = new RegretLocks();
        some(x);
        Due.due("lock 0 is jammed", 1, x.town(4));
        Due.due("8 bytes", 8, x.count(7));
        Due.due("two numbers wait", 2, x.count(6));
        Due.due("they are the day told", 0, x.check(1));
        RegretLocks y = new RegretLocks();
        full(y);
        int[] due = {8, 3, 10, 30, 10, 14, 60, 96};
        for (int what = 0; what < due.length; what++) {
            Due.due("full, count(" + what + ")", due[what], y.count(what));
        }
    }

    private static void refused(Twins twins, String name, int due, ToIntFunction<RegretLocks> call) {
        twins.refused(name, due, call);
    }

    private static void people() {
        Due.of("Promise 2: BAD; FULL");
        int[][] wrong = {{-1, 0, 0, 0, 0}, {6, 0, 0, 0, 0}, {0, -1, 0, 0, 0}, {0, 8, 0, 0, 0}, {0, 0, -1, 0, 0}, {0, 0, 100, 0, 0},
            {0, 0, 0, -1, 0}, {0, 0, 0, 100, 0}, {0, 0, 0, 0, -1}, {0, 0, 0, 0, 100}, {LEAST, MOST, LEAST, MOST, LEAST}};
        for (int[] w : wrong) {
            refused(NEW, "a wrong one, of none", BAD, x -> x.one(w[0], w[1], w[2], w[3], w[4]));
            refused(CROWDED, "a wrong one, of eight: BAD stands first", BAD, x -> x.one(w[0], w[1], w[2], w[3], w[4]));
        }
        refused(CROWDED, "a ninth one", FULL, x -> x.one(0, 0, 0, 0, 0));
        Due.of("Promise 3: BAD");
        int[][] none = {{-1, 0}, {3, 0}, {0, -1}, {0, 9}, {LEAST, LEAST}, {MOST, MOST}};
        for (int[] w : none) {
            refused(SOME, "told of none", BAD, x -> x.told(w[0], w[1]));
        }
        refused(NEW, "told, of none", BAD, x -> x.told(0, 0));
        refused(CROWDED, "told of a ninth", BAD, x -> x.told(8, 0));
        Due.of("Promise 6: BAD");
        int[][] sets = {{-1, 1, 0}, {3, 1, 0}, {0, 0, 0}, {0, 5, 0}, {0, 1, -1}, {0, 1, 8}, {0, 2, -1}, {0, 2, 100}, {0, 3, -1},
            {0, 3, 100}, {0, 4, -1}, {0, 4, 100}, {0, LEAST, 0}, {0, 2, MOST}, {0, 2, LEAST}};
        for (int[] w : sets) {
            refused(SOME, "a wrong set", BAD, x -> x.set(w[0], w[1], w[2]));
        }
        refused(NEW, "set, of none", BAD, x -> x.set(0, 1, 0));
        Due.of("Promise 12: BAD");
        for (int room : new int[] {-1, 8, LEAST, MOST}) {
            refused(SOME, "at no room", BAD, x -> x.at(room));
        }
    }

    private static void kinds() {
        int[][] wrong = {{-1, 0}, {3, 0}, {0, -1}, {0, 6}, {MOST, LEAST}};
        for (int[] w : wrong) {
            Due.of("Promise 4: BAD: one, kind");
            refused(SOME, "as", BAD, x -> x.as(w[0], w[1]));
            Due.of("Promise 5: BAD");
            refused(SOME, "turns", BAD, x -> x.turns(w[0], w[1]));
        }
        refused(NEW, "turns, of none", BAD, x -> x.turns(0, 0));
        Due.of("Promise 4: KIND: it is not of that KIND, nor of one under it");
        refused(SOME, "ONE as GUILTY", KIND, x -> x.as(0, 1));
        refused(SOME, "FALSE as HAPPY", KIND, x -> x.as(1, 2));
        refused(SOME, "GENERAL as CHILD", KIND, x -> x.as(2, 4));
        refused(SOME, "GENERAL as FALSE", KIND, x -> x.as(2, 5));
    }

    private static void locks() {
        Due.of("Promise 7: BAD; FULL");
        int[][] wrong = {{-1, 0, 0, 0}, {8, 0, 0, 0}, {0, -1, 0, 0}, {0, 8, 0, 0}, {0, 0, -1, 0}, {0, 0, 3, 0}, {0, 0, 0, -1},
            {0, 0, 0, 100}, {MOST, MOST, MOST, MOST}, {LEAST, LEAST, LEAST, LEAST}};
        for (int[] w : wrong) {
            refused(NEW, "a wrong lock, of none", BAD, x -> x.lock(w[0], w[1], w[2], w[3]));
            refused(CROWDED, "a wrong lock, of ten: BAD stands first", BAD, x -> x.lock(w[0], w[1], w[2], w[3]));
        }
        refused(CROWDED, "an eleventh lock", FULL, x -> x.lock(0, 0, 0, 0));
        Due.of("Promise 8: BAD");
        int[][] none = {{-1, 0}, {2, 0}, {0, -1}, {0, 6}, {LEAST, 0}, {0, MOST}};
        for (int[] w : none) {
            refused(SOME, "about none", BAD, x -> x.about(w[0], w[1]));
        }
        refused(CROWDED, "about an eleventh", BAD, x -> x.about(10, 0));
        Due.of("Promise 9: BAD");
        int[][] sets = {{-1, 0, 0}, {2, 0, 0}, {0, -1, 0}, {0, 4, 0}, {0, 0, -1}, {0, 0, 8}, {0, 1, -1}, {0, 1, 8}, {0, 2, -1},
            {0, 2, 3}, {0, 3, -1}, {0, 3, 100}, {0, 3, MOST}, {0, 3, LEAST}};
        for (int[] w : sets) {
            refused(SOME, "a wrong sets", BAD, x -> x.sets(w[0], w[1], w[2]));
        }
        Due.of("Promise 10: BAD; NO: it was not");
        refused(SOME, "mends(-1)", BAD, x -> x.mends(-1));
        refused(SOME, "mends(2)", BAD, x -> x.mends(2));
        refused(NEW, "mends, of none", BAD, x -> x.mends(0));
        refused(SOME, "mends what is not jammed", NO, x -> x.mends(1));
    }

    private static void lot() {
        Due.of("Promise 11: BAD");
        int[][] wrong = {{-1, 0}, {2, 0}, {0, -1}, {0, 101}, {1, -1}, {1, 101}, {0, MOST}, {1, LEAST}};
        for (int[] w : wrong) {
            refused(SOME, "a wrong rule", BAD, x -> x.rule(w[0], w[1]));
        }
        Due.of("Promise 13: BAD");
        for (int n : new int[] {-1, 0, 9, LEAST, MOST}) {
            refused(SOME, "deal(" + n + ")", BAD, x -> x.deal(n));
            refused(CROWDED, "deal(" + n + ") without room", BAD, x -> x.deal(n));
        }
    }

    private static void days() {
        Due.of("Promise 15: BAD; NO: it is not in the ROOM FROM, or the LOCK does not OPEN for it");
        int[][] wrong = {{-1, 0}, {3, 0}, {0, -1}, {0, 2}, {MOST, LEAST}};
        for (int[] w : wrong) {
            refused(SOME, "passes", BAD, x -> x.passes(w[0], w[1]));
        }
        refused(SOME, "from another room", NO, x -> x.passes(0, 0));
        refused(SOME, "through what is jammed", NO, x -> x.passes(1, 0));
        refused(new Twins(x -> {
            x.one(0, 3, 49, 0, 0);
            x.lock(3, 4, 0, 50);
        }), "feeling one less", NO, x -> x.passes(0, 0));
        Due.of("Promise 16: BAD");
        for (int n : new int[] {-1, 0, 101, LEAST, MOST}) {
            refused(SOME, "days(" + n + ")", BAD, x -> x.days(n));
        }
        Due.of("Promise 17: BAD");
        for (int what : new int[] {-1, 5, LEAST, MOST}) {
            refused(SOME, "town(" + what + ")", BAD, x -> x.town(what));
        }
    }

    private static void ways() {
        for (int one : new int[] {-1, 3, LEAST, MOST}) {
            Due.of("Promises 18 to 20, 22: BAD");
            refused(SOME, "reach", BAD, x -> x.reach(one));
            refused(SOME, "way", BAD, x -> x.way(one, 0));
            refused(SOME, "pardoned", BAD, x -> x.pardoned(one));
            refused(SOME, "sorry", BAD, x -> x.sorry(one, 0));
        }
        refused(NEW, "reach, of none", BAD, x -> x.reach(0));
        refused(NEW, "pardoned, of none", BAD, x -> x.pardoned(0));
        refused(SOME, "no room", BAD, x -> x.way(0, -1));
        refused(SOME, "no room", BAD, x -> x.way(0, 8));
        refused(SOME, "sorry for no lock", BAD, x -> x.sorry(0, -1));
        refused(SOME, "sorry for no lock", BAD, x -> x.sorry(0, 2));
        Due.of("Promise 19: NONE: there is none");
        refused(SOME, "no way", NONE, x -> x.way(0, 7));
        Due.of("Promise 21: BAD: also a set of others; NONE: with none");
        for (int[] w : new int[][] {{-1, 0}, {2, 0}, {0, -1}, {0, 8}, {0, 9}, {0, LEAST}, {0, MOST}}) {
            refused(SOME, "just", BAD, x -> x.just(w[0], w[1]));
        }
        refused(CROWDED, "a ninth in the set", BAD, x -> x.just(0, 256));
        refused(SOME, "just the least sorry", NONE, x -> x.just(1, 2));
        Due.of("Promise 22: NONE: by none");
        refused(SOME, "a false one is never sorry", NONE, x -> x.sorry(1, 1));
    }

    private static void thought() {
        Due.of("Promise 23: BAD");
        for (int[] w : new int[][] {{-1, 0}, {101, 0}, {0, -1}, {0, 6}, {LEAST, 0}, {0, MOST}}) {
            refused(SOME, "behind", BAD, x -> x.behind(w[0], w[1]));
        }
        refused(NEW, "the room of nobody", BAD, x -> x.behind(0, 3));
        refused(CROWDED, "the room of a ninth", BAD, x -> x.behind(0, 11));
        Due.of("Promise 24: BAD; NONE: not by then");
        for (int[] w : new int[][] {{-1, 0}, {3, 0}, {0, -1}, {0, 8}}) {
            refused(SOME, "enters", BAD, x -> x.enters(w[0], w[1]));
        }
        refused(SOME, "never", NONE, x -> x.enters(0, 7));
        Due.of("Promise 25: BAD; NONE: there are no LOCKS");
        for (int[] w : new int[][] {{0, 0}, {61, 0}, {1, -1}, {1, 2}, {LEAST, 0}, {MOST, 1}}) {
            refused(SOME, "freed", BAD, x -> x.freed(w[0], w[1]));
            refused(NEW, "freed without locks: BAD stands first", BAD, x -> x.freed(w[0], w[1]));
        }
        refused(NEW, "freed without locks", NONE, x -> x.freed(1, 0));
        refused(NEW, "freed without locks", NONE, x -> x.freed(60, 1));
        Due.of("Promise 26: BAD");
        for (int[] w : new int[][] {{-1, 1, 0}, {3, 1, 0}, {0, 0, 0}, {0, 61, 0}, {0, 1, -1}, {0, 1, 2}}) {
            refused(SOME, "becomes", BAD, x -> x.becomes(w[0], w[1], w[2]));
        }
        Due.of("Promise 27: BAD; NOTHING; NONE: there are no PEOPLE");
        for (int[] w : new int[][] {{-1, 0}, {4, 0}, {2, -1}, {2, 2}, {0, 2}}) {
            refused(SOME, "like", BAD, x -> x.like(w[0], w[1]));
        }
        refused(SOME, "like by a missing sheet", NOTHING, x -> x.like(2, 0));
        refused(NEW, "nobody, by a missing sheet: NOTHING stands first", NOTHING, x -> x.like(0, 1));
        Twins nobody = new Twins(x -> x.sheet(0, 0, 2));
        refused(nobody, "like, of nobody", NONE, x -> x.like(0, 0));
        refused(nobody, "like, of nobody", NONE, x -> x.like(0, 1));
        refused(nobody, "like, of nobody: BAD stands first", BAD, x -> x.like(0, 2));
        Due.of("Promise 29: BAD");
        for (int one : new int[] {-1, 3, LEAST, MOST}) {
            refused(SOME, "fine", BAD, x -> x.fine(one));
        }
        refused(NEW, "fine, of none", BAD, x -> x.fine(0));
    }

    private static void tape() {
        Due.of("Promise 30: FULL: it would have more than 96");
        refused(CROWDED, "feed", FULL, x -> x.feed(0, 0, 0));
        refused(new Twins(x -> Due.feed(x, "fee " + "1+".repeat(40) + "2")), "feed to 85", FULL, x -> x.feed(0, 0, 0));
        Due.of("Promise 31: BAD");
        refused(NEW, "trim(1) of nothing", BAD, x -> x.trim(1));
        refused(SOME, "trim(9) of 8", BAD, x -> x.trim(9));
        refused(CROWDED, "trim(97)", BAD, x -> x.trim(97));
        refused(SOME, "trim(-1)", BAD, x -> x.trim(-1));
        refused(SOME, "trim(LEAST)", BAD, x -> x.trim(LEAST));
    }

    private static void texts() {
        Due.of("Promise 32: -100 less the place of its FAULT; FULL");
        NEW.refusedText("an empty tape", -100);
        CROWDED.refusedText("a fifteenth text", FULL);
        new Twins(x -> {
            some(x);
            x.trim(7);
        }).refusedText("a text that ends too soon", -107);
        new Twins(x -> {
            full(x);
            x.trim(9);
        }).refusedText("a fifteenth text with a fault: that stands first", -109);
        Due.of("Promise 33: BAD");
        for (int[] w : new int[][] {{-1, 0}, {2, 0}, {0, -1}, {0, 2}, {MOST, 0}, {0, LEAST}}) {
            refused(SOME, "textTold", BAD, x -> x.textTold(w[0], w[1]));
        }
        refused(CROWDED, "of a fifteenth text", BAD, x -> x.textTold(14, 0));
        Due.of("Promise 34: BAD; NONE");
        for (int key : new int[] {-1, 3, LEAST, MOST}) {
            refused(SOME, "why(" + key + ")", BAD, x -> x.why(key));
        }
        refused(SOME, "no text for fine", NONE, x -> x.why(2));
        refused(CROWDED, "no text for wear, of fourteen", NONE, x -> x.why(0));
    }

    private static void sheets() {
        Due.of("Promise 35: BAD: sheet, sort, n above 24; SIZE");
        for (int[] w : new int[][] {{-1, 0, 1}, {4, 0, 1}, {0, -2, 1}, {0, 2, 1}, {0, 0, 25}, {0, 1, 25}, {0, 1, MOST}, {4, -1, 0},
            {4, 0, -1}, {0, 2, -1}, {0, -2, -1}}) {
            refused(SOME, "sheet", BAD, x -> x.sheet(w[0], w[1], w[2]));
        }
        refused(SOME, "-1 shorts", SIZE, x -> x.sheet(0, 0, -1));
        refused(SOME, "so few floats", SIZE, x -> x.sheet(1, 1, LEAST));
        refused(SOME, "-1 places of what is missing", SIZE, x -> x.sheet(2, 0, -1));
        Due.of("Promise 36: BAD: sheet; NOTHING; INDEX; KIND: NONE in a row of shorts; BAD: v of floats");
        refused(SOME, "mark on no sheet", BAD, x -> x.mark(-1, 0, 0));
        refused(SOME, "mark on no sheet", BAD, x -> x.mark(4, 99, NONE));
        refused(SOME, "mark on a missing one", NOTHING, x -> x.mark(2, 0, 0));
        refused(SOME, "mark on a missing one: NOTHING stands ahead of the rest", NOTHING, x -> x.mark(2, 99, NONE));
        refused(SOME, "no place behind shorts", INDEX, x -> x.mark(1, 2, 0));
        refused(SOME, "no place behind shorts: INDEX stands ahead of KIND", INDEX, x -> x.mark(1, 2, NONE));
        refused(SOME, "no place behind floats: INDEX stands ahead of BAD", INDEX, x -> x.mark(0, 3, 100000));
        refused(SOME, "no place before floats", INDEX, x -> x.mark(0, -1, 0));
        refused(SOME, "no place of none", INDEX, x -> x.mark(3, 0, 0));
        refused(SOME, "no number among shorts", KIND, x -> x.mark(1, 1, NONE));
        for (int v : new int[] {100000, -100000, MOST, LEAST, BAD, NOTHING}) {
            refused(SOME, v + " among floats", BAD, x -> x.mark(0, 0, v));
        }
        Due.of("Promises 37, 38: BAD; NOTHING; NONE: there is none");
        for (int sheet : new int[] {-1, 4, LEAST, MOST}) {
            refused(SOME, "pour", BAD, x -> x.pour(sheet));
            refused(SOME, "reads", BAD, x -> x.reads(sheet));
        }
        refused(SOME, "pour a missing one", NOTHING, x -> x.pour(2));
        refused(SOME, "reads a missing one", NOTHING, x -> x.reads(2));
        refused(SOME, "reads no places", NONE, x -> x.reads(3));
    }

    private static void copies() {
        Due.of("Promise 39: BAD; NOTHING; KIND: they are not of one sort; INDEX");
        int[][] bad = {{-1, 0, 0, 0, 0}, {4, 0, 0, 0, 0}, {0, 0, -1, 0, 0}, {0, 0, 4, 0, 0}, {2, 9, 4, 9, 9}, {-1, 9, 2, 9, -9}};
        int[][] nothing = {{2, 0, 0, 0, 0}, {0, 0, 2, 0, 0}, {2, 0, 2, 0, 0}, {2, 9, 1, 9, 9}};
        int[][] kind = {{0, 0, 1, 0, 0}, {1, 0, 0, 0, 1}, {0, 9, 3, 9, 9}, {3, -1, 0, -1, -1}};
        int[][] index = {{0, 0, 0, 0, 4}, {0, 1, 0, 0, 3}, {0, 0, 0, 1, 3}, {0, -1, 0, 0, 1}, {0, 0, 0, -1, 1}, {0, 4, 0, 0, 0},
            {0, 0, 0, 4, 0}, {0, 0, 0, 0, -1}, {1, 0, 3, 0, 1}, {3, 0, 1, 0, 1}, {0, MOST, 0, 0, 1}, {0, 1, 0, 0, MOST},
            {0, 0, 0, MOST, 1}, {0, LEAST, 0, 0, LEAST}, {0, 0, 0, 0, LEAST}};
        for (int[] w : bad) {
            refused(SOME, "copy", BAD, x -> x.copy(w[0], w[1], w[2], w[3], w[4]));
        }
        for (int[] w : nothing) {
            refused(SOME, "copy", NOTHING, x -> x.copy(w[0], w[1], w[2], w[3], w[4]));
        }
        for (int[] w : kind) {
            refused(SOME, "copy", KIND, x -> x.copy(w[0], w[1], w[2], w[3], w[4]));
        }
        for (int[] w : index) {
            refused(SOME, "copy", INDEX, x -> x.copy(w[0], w[1], w[2], w[3], w[4]));
        }
    }

    private static void slots() {
        Due.of("Promise 40: BAD: slot, thing, k; NOTHING: that SHEET is MISSING");
        for (int[] w : new int[][] {{-1, 0, 0}, {5, 0, 0}, {5, 2, 2}, {3, -1, 0}, {3, 4, 0}, {3, 1, -1}, {3, 1, 3}, {3, 2, -1},
            {3, 2, 4}, {3, 1, MOST}, {3, 2, LEAST}}) {
            refused(SOME, "lay", BAD, x -> x.lay(w[0], w[1], w[2]));
        }
        refused(NEW, "lay one, of none", BAD, x -> x.lay(0, 1, 0));
        refused(SOME, "lay a missing sheet", NOTHING, x -> x.lay(3, 2, 2));
        Due.of("Promise 41: BAD; NOTHING; KIND: it is no ONE, or not of that KIND, nor of one under it");
        for (int[] w : new int[][] {{-1, 0}, {5, 0}, {1, -1}, {1, 6}, {0, 6}, {2, 6}}) {
            refused(SOME, "ask", BAD, x -> x.ask(w[0], w[1]));
        }
        refused(SOME, "ask nothing", NOTHING, x -> x.ask(0, 0));
        refused(SOME, "ask a sheet", KIND, x -> x.ask(2, 0));
        refused(SOME, "ask a number", KIND, x -> x.ask(3, 0));
        refused(SOME, "ask a general as a happy one", KIND, x -> x.ask(1, 2));
        Due.of("Promise 42: BAD: slot; NOTHING; KIND: it is no SHEET; INDEX; KIND: NO NUMBER");
        refused(SOME, "item of no slot", BAD, x -> x.item(-1, 0));
        refused(SOME, "item of no slot", BAD, x -> x.item(5, 99));
        refused(SOME, "item of nothing", NOTHING, x -> x.item(0, 0));
        refused(SOME, "item of nothing: NOTHING stands first", NOTHING, x -> x.item(4, -1));
        refused(SOME, "item of one", KIND, x -> x.item(1, 0));
        refused(SOME, "item of a number: KIND stands first", KIND, x -> x.item(3, 99));
        refused(SOME, "item behind the last", INDEX, x -> x.item(2, 3));
        refused(SOME, "item before the first", INDEX, x -> x.item(2, -1));
        refused(SOME, "item that is no number", KIND, x -> x.item(2, 1));
        Due.of("Promise 43: BAD: slot; NOTHING; KIND: it is no number; NO: n is 0");
        refused(SOME, "rest of no slot", BAD, x -> x.rest(-1, 1));
        refused(SOME, "rest of no slot: BAD stands first", BAD, x -> x.rest(5, 0));
        refused(SOME, "rest of nothing: NOTHING stands first", NOTHING, x -> x.rest(0, 0));
        refused(SOME, "rest of one", KIND, x -> x.rest(1, 1));
        refused(SOME, "rest of a sheet: KIND stands first", KIND, x -> x.rest(2, 0));
        refused(SOME, "rest by 0", NO, x -> x.rest(3, 0));
    }

    private static void rows() {
        Due.of("Promise 44: FULL: 60 wait");
        refused(CROWDED, "tell", FULL, x -> x.tell(7));
        Due.of("Promise 45: BAD; NO: there is no IMAGE");
        for (int n : new int[] {-1, 0, 31, LEAST, MOST}) {
            SOME.refusedCheck("check(" + n + ")", BAD, n);
            NEW.refusedCheck("check(" + n + ") without an image: BAD stands first", BAD, n);
        }
        new Twins(x -> x.tell(0)).refusedCheck("check without an image", NO, 1);
        NEW.refusedCheck("check without an image", NO, 30);
        Due.of("Promise 47: NO: there is none");
        refused(NEW, "back", NO, RegretLocks::back);
        refused(new Twins(x -> x.deal(3)), "back, with people", NO, RegretLocks::back);
        Due.of("Promise 48: BAD");
        for (int what : new int[] {-1, 9, LEAST, MOST}) {
            refused(SOME, "count(" + what + ")", BAD, x -> x.count(what));
        }
    }

    private static void onlyTold() {
        Due.of("Terms 3: all is only thought, nothing changes");
        for (Twins twins : new Twins[] {SOME, CROWDED}) {
            twins.onlyTells("told", x -> x.told(0, 8));
            twins.onlyTells("as", x -> x.as(0, 0));
            twins.onlyTells("about", x -> x.about(0, 5));
            twins.onlyTells("at", x -> x.at(0));
            twins.onlyTells("town", x -> x.town(4));
            twins.onlyTells("reach", x -> x.reach(0));
            twins.onlyTells("way", x -> x.way(0, x.told(0, 1)));
            twins.onlyTells("pardoned", x -> x.pardoned(0));
            twins.onlyTells("just", x -> x.just(0, x.about(0, 5) | (1 << x.count(0)) - 1));
            twins.onlyTells("sorry", x -> x.sorry(0, 0));
            twins.onlyTells("behind", x -> x.behind(100, 0));
            twins.onlyTells("enters", x -> x.enters(0, x.told(0, 1)));
            twins.onlyTells("freed", x -> x.freed(60, 0));
            twins.onlyTells("becomes", x -> x.becomes(0, 60, 0));
            twins.onlyTells("fee", RegretLocks::fee);
            twins.onlyTells("fine", x -> x.fine(0));
            twins.onlyTells("textTold", x -> x.textTold(0, 1));
            twins.onlyTells("count", x -> x.count(5));
        }
        SOME.onlyTells("enters another room", x -> x.enters(2, 2));
        SOME.onlyTells("like", x -> x.like(0, 0));
        SOME.onlyTells("like", x -> x.like(1, 1));
        SOME.onlyTells("reads", x -> x.reads(0));
        SOME.onlyTells("ask", x -> x.ask(1, 3));
        SOME.onlyTells("item", x -> x.item(2, 0));
        SOME.onlyTells("rest", x -> x.rest(3, 5));
        SOME.onlyTells("why", x -> x.why(0));
    }
}
