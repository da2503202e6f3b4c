import java.util.Arrays;

/** The edges that Terms 5 and promises 35 to 43 name. */
public final class SheetsEdgesTest {
    private static final int BAD = RegretLocks.BAD, NO = RegretLocks.NO, NONE = RegretLocks.NONE;
    private static final int NOTHING = RegretLocks.NOTHING, KIND = RegretLocks.KIND, INDEX = RegretLocks.INDEX, SIZE = RegretLocks.SIZE;
    private static final int LEAST = Integer.MIN_VALUE, MOST = Integer.MAX_VALUE;

    public static void main(String[] args) {
        fourSheets();
        places();
        allZero();
        missing();
        shorts();
        floats();
        marksInOrder();
        pours();
        poursBeyond();
        reads();
        readsBeyond();
        copiesAtTheEnds();
        copiesAsTheyWere();
        copiesInOrder();
        fiveSlots();
        laysAsItIsThen();
        laysForGood();
        laysInOrder();
        asks();
        items();
        rests();
        Due.end("SheetsEdgesTest");
    }

    private static void row(RegretLocks x, int sheet, int... due) {
        x.lay(4, 2, sheet);
        for (int i = 0; i < due.length; i++) {
            Due.due("place " + i + " of sheet " + sheet, due[i], x.item(4, i));
        }
        Due.due("behind the last of sheet " + sheet, INDEX, x.item(4, due.length));
    }

    private static void marks(RegretLocks x, int sheet, int... values) {
        for (int i = 0; i < values.length; i++) {
            Due.due("mark", 1, x.mark(sheet, i, values[i]));
        }
    }

    private static void fourSheets() {
        Due.of("Terms 5: SHEETS 0 .. 3");
        RegretLocks x = new RegretLocks();
        for (int sheet = 0; sheet < 4; sheet++) {
            Due.due("sheet " + sheet + " at first", NOTHING, x.pour(sheet));
            Due.due("sheet " + sheet, sheet + 1, x.sheet(sheet, sheet % 2, sheet + 1));
            x.mark(sheet, sheet, 10 + sheet);
        }
        row(x, 0, 10);
        row(x, 1, 0, 11);
        row(x, 2, 0, 0, 12);
        row(x, 3, 0, 0, 0, 13);
        for (int none : new int[] {-1, 4, LEAST, MOST}) {
            Due.due("sheet", BAD, x.sheet(none, 0, 1));
            Due.due("sheet, missing", BAD, x.sheet(none, -1, 1));
            Due.due("mark", BAD, x.mark(none, 0, 0));
            Due.due("pour", BAD, x.pour(none));
            Due.due("reads", BAD, x.reads(none));
            Due.due("copy from", BAD, x.copy(none, 0, 0, 0, 0));
            Due.due("copy to", BAD, x.copy(0, 0, none, 0, 0));
            Due.due("like", BAD, x.like(none, 0));
            Due.due("lay", BAD, x.lay(0, 2, none));
        }
    }

    private static void places() {
        Due.of("Terms 5: with 0 to 24 places; Promise 35: BAD: n above 24; SIZE");
        for (int sort = 0; sort < 2; sort++) {
            RegretLocks x = new RegretLocks();
            for (int n = 0; n <= 24; n++) {
                Due.due("a row of " + n, n, x.sheet(0, sort, n));
                Due.due("the last of " + n, n == 0 ? INDEX : 1, x.mark(0, n - 1, 5));
                Due.due("behind the last of " + n, INDEX, x.mark(0, n, 5));
            }
            for (int n : new int[] {25, 26, 1000, MOST}) {
                Due.due("a row of " + n, BAD, x.sheet(0, sort, n));
            }
            for (int n : new int[] {-1, -24, LEAST}) {
                Due.due("a row of " + n, SIZE, x.sheet(0, sort, n));
            }
            Due.due("24 still", 1, x.mark(0, 23, 6));
        }
        Due.of("Promise 35: BAD: sheet, sort; of several the first");
        RegretLocks x = new RegretLocks();
        for (int sort : new int[] {-2, 2, LEAST, MOST}) {
            Due.due("sort " + sort, BAD, x.sheet(0, sort, 1));
            Due.due("sort " + sort + ", -1 places", BAD, x.sheet(0, sort, -1));
        }
        Due.due("no sheet, -1 places", BAD, x.sheet(4, 0, -1));
    }

    private static void allZero() {
        Due.of("Promise 35: a row of n places of a sort, all 0");
        RegretLocks x = new RegretLocks();
        x.sheet(0, 1, 24);
        for (int i = 0; i < 24; i++) {
            x.mark(0, i, i % 2 == 0 ? NONE : 99999);
        }
        Due.due("floats again", 24, x.sheet(0, 1, 24));
        row(x, 0, new int[24]);
        x.mark(0, 3, NONE);
        Due.due("shorts then", 5, x.sheet(0, 0, 5));
        row(x, 0, new int[5]);
        marks(x, 0, 1, 2, 3, 4, 5);
        x.sheet(0, -1, 0);
        Due.due("behind a time of missing", 24, x.sheet(0, 0, 24));
        row(x, 0, new int[24]);
    }

    private static void missing() {
        Due.of("Promise 35: (sort -1: MISSING, n any): 0");
        for (int n : new int[] {0, 1, -1, 24, 25, LEAST, MOST}) {
            RegretLocks x = new RegretLocks();
            Due.due("missing already, n " + n, 0, x.sheet(0, -1, n));
            x.sheet(0, 0, 3);
            Due.due("n " + n, 0, x.sheet(0, -1, n));
            Due.of("Terms 5: NOTHING: a SHEET is MISSING");
            Due.due("mark", NOTHING, x.mark(0, 0, 0));
            Due.due("pour", NOTHING, x.pour(0));
            Due.due("reads", NOTHING, x.reads(0));
            Due.due("lay", NOTHING, x.lay(0, 2, 0));
            Due.due("like", NOTHING, x.like(0, 0));
            x.sheet(1, 0, 3);
            Due.due("copy from", NOTHING, x.copy(0, 0, 1, 0, 0));
            Due.due("copy to", NOTHING, x.copy(1, 0, 0, 0, 0));
            Due.due("copy to itself", NOTHING, x.copy(0, 0, 0, 0, 0));
            Due.of("Promise 35: (sort -1: MISSING, n any): 0");
        }
        Due.of("Terms 5: no places are not MISSING");
        RegretLocks x = new RegretLocks();
        x.sheet(0, 0, 0);
        Due.due("mark", INDEX, x.mark(0, 0, 0));
        Due.due("pour", 0, x.pour(0));
        Due.due("reads", NONE, x.reads(0));
        Due.due("copy", 0, x.copy(0, 0, 0, 0, 0));
        Due.due("lay", 0, x.lay(0, 2, 0));
        Due.due("item", INDEX, x.item(0, 0));
    }

    private static void shorts() {
        Due.of("Promise 36: of shorts its lowest 16 bits");
        RegretLocks x = new RegretLocks();
        int[] values = {0, 1, -1, 32767, 32768, -32768, -32769, 65535, 65536, 65537, MOST, LEAST, 99999, -99999, 100000, BAD,
            NOTHING, NONE + 1, NONE - 1};
        x.sheet(0, 0, values.length);
        marks(x, 0, values);
        int[] due = new int[values.length];
        for (int i = 0; i < due.length; i++) {
            int low = values[i] & 65535;
            due[i] = low < 32768 ? low : low - 65536;
        }
        row(x, 0, due);
        Due.of("Promise 36: KIND: NONE in a row of shorts");
        Due.due("none", KIND, x.mark(0, 1, NONE));
        row(x, 0, due);
    }

    private static void floats() {
        Due.of("Promise 36: of floats v, -99999 .. 99999; NONE: NO NUMBER; BAD: v of floats");
        RegretLocks x = new RegretLocks();
        x.sheet(0, 1, 6);
        marks(x, 0, -99999, 99999, NONE, 0, 32768, -65537);
        row(x, 0, -99999, 99999, KIND, 0, 32768, -65537);
        for (int v : new int[] {100000, -100000, MOST, LEAST, BAD, NO, RegretLocks.FULL, NOTHING, KIND, INDEX, SIZE, NONE + 1, NONE - 1}) {
            Due.due("mark " + v, BAD, x.mark(0, 0, v));
            Due.due("mark " + v + " where no number is", BAD, x.mark(0, 2, v));
        }
        row(x, 0, -99999, 99999, KIND, 0, 32768, -65537);
        Due.due("a number becomes none", 1, x.mark(0, 0, NONE));
        Due.due("none becomes a number", 1, x.mark(0, 2, -1));
        row(x, 0, KIND, 99999, -1, 0, 32768, -65537);
    }

    private static void marksInOrder() {
        Due.of("Promise 36: BAD: sheet; NOTHING; INDEX; KIND; BAD: of several the first");
        RegretLocks x = new RegretLocks();
        x.sheet(0, 0, 2);
        x.sheet(1, 1, 2);
        for (int place : new int[] {-1, 2, 24, LEAST, MOST}) {
            Due.due("shorts, place " + place, INDEX, x.mark(0, place, 1));
            Due.due("shorts, place " + place + ", none", INDEX, x.mark(0, place, NONE));
            Due.due("floats, place " + place, INDEX, x.mark(1, place, 1));
            Due.due("floats, place " + place + ", too much", INDEX, x.mark(1, place, 100000));
            Due.due("missing, place " + place, NOTHING, x.mark(2, place, NONE));
            Due.due("no sheet, place " + place, BAD, x.mark(4, place, NONE));
        }
    }

    private static void pours() {
        Due.of("Promise 37: each held within 0 .. 99: how many are otherwise then");
        int[] values = {0, 99, 100, -1, 99999, -99999, 98, 1};
        int[] due = {0, 99, 99, 0, 99, 0, 98, 1};
        RegretLocks x = new RegretLocks();
        x.sheet(0, 1, 8);
        marks(x, 0, values);
        for (int i = 0; i < 8; i++) {
            x.one(i % 6, 0, 50, 60, 70);
        }
        Due.due("all eight", 8, x.pour(0));
        for (int i = 0; i < 8; i++) {
            Due.due("regret of " + i, due[i], x.told(i, 2));
            Due.due("of sort 1", 60, x.told(i, 3));
            Due.due("of sort 2", 70, x.told(i, 4));
        }
        Due.due("none any more", 0, x.pour(0));
        x.set(3, 2, 1);
        Due.due("one again", 1, x.pour(0));
        x.sheet(1, 0, 8);
        marks(x, 1, 32767, -32768, 32768, 99, 100, 0, 65535, 65536 + 50);
        Due.due("shorts, two of which are as they were", 6, x.pour(1));
        int[] shorts = {99, 0, 0, 99, 99, 0, 0, 50};
        for (int i = 0; i < 8; i++) {
            Due.due("regret of " + i + " by shorts", shorts[i], x.told(i, 2));
        }
    }

    private static void poursBeyond() {
        Due.of("Promise 37: NO NUMBER, and beyond the SHEET: they stay");
        RegretLocks x = new RegretLocks();
        x.sheet(0, 1, 24);
        Due.due("nobody", 0, x.pour(0));
        for (int i = 0; i < 4; i++) {
            x.one(0, 0, 50, 0, 0);
        }
        for (int i = 0; i < 24; i++) {
            x.mark(0, i, NONE);
        }
        Due.due("no numbers", 0, x.pour(0));
        Due.due("all stay", 200, x.town(3));
        x.mark(0, 3, 7);
        x.mark(0, 4, 7);
        Due.due("the last one, and nobody behind it", 1, x.pour(0));
        Due.due("one is otherwise", 157, x.town(3));
        x.sheet(0, 0, 1);
        Due.due("one place", 1, x.pour(0));
        Due.due("the others stay", 107, x.town(3));
        x.sheet(0, 0, 0);
        Due.due("no places", 0, x.pour(0));
        Due.due("all stay", 107, x.town(3));
    }

    private static void reads() {
        Due.of("Promise 38: the first place (of numbers alone) at which a SHEET is not the ROOM of that one");
        RegretLocks x = new RegretLocks();
        for (int i = 0; i < 8; i++) {
            x.one(0, 7 - i, 0, 0, 0);
        }
        x.sheet(0, 1, 8);
        marks(x, 0, 7, 6, 5, 4, 3, 2, 1, 0);
        Due.due("all are", NONE, x.reads(0));
        for (int i = 0; i < 8; i++) {
            x.mark(0, i, 8);
            Due.due("all but " + i, i, x.reads(0));
            x.mark(0, i, NONE);
            Due.due("all that are numbers", NONE, x.reads(0));
        }
        marks(x, 0, 7, NONE, -1, 99999);
        Due.due("of several the first", 2, x.reads(0));
    }

    private static void readsBeyond() {
        Due.of("Promise 38: of places that are none of the PEOPLE all numbers are not; NONE: there is none");
        RegretLocks x = new RegretLocks();
        x.sheet(0, 1, 24);
        Due.due("nobody", 0, x.reads(0));
        for (int i = 0; i < 24; i++) {
            x.mark(0, i, NONE);
        }
        Due.due("no numbers", NONE, x.reads(0));
        x.mark(0, 23, 0);
        Due.due("a number at the last place", 23, x.reads(0));
        for (int i = 0; i < 8; i++) {
            x.one(0, 0, 0, 0, 0);
        }
        x.mark(0, 8, 0);
        Due.due("behind the eighth", 8, x.reads(0));
        x.sheet(0, 0, 8);
        Due.due("eight in room 0", NONE, x.reads(0));
        x.sheet(0, 0, 9);
        Due.due("nine in room 0", 8, x.reads(0));
        x.sheet(0, 0, 0);
        Due.due("no places", NONE, x.reads(0));
    }

    private static void copiesAtTheEnds() {
        Due.of("Promise 39: INDEX");
        RegretLocks x = new RegretLocks();
        x.sheet(0, 0, 24);
        x.sheet(1, 0, 10);
        int[][] sound = {{0, 0, 10}, {14, 0, 10}, {0, 9, 1}, {23, 9, 1}, {24, 10, 0}, {0, 0, 0}, {0, 10, 0}, {24, 0, 0}, {20, 6, 4}};
        for (int[] w : sound) {
            Due.due("copy " + Arrays.toString(w), w[2], x.copy(0, w[0], 1, w[1], w[2]));
            Due.due("copy the other way " + Arrays.toString(w), w[2], x.copy(1, w[1], 0, w[0], w[2]));
        }
        int[][] wrong = {{0, 0, 11}, {15, 0, 10}, {0, 1, 10}, {0, 10, 1}, {24, 9, 1}, {25, 0, 0}, {0, 11, 0}, {-1, 0, 0}, {0, -1, 0},
            {-1, 0, 1}, {0, -1, 1}, {0, 0, -1}, {24, 10, -1}, {1, 1, -1}, {0, 0, MOST}, {0, 0, LEAST}, {MOST, 0, 1}, {0, MOST, 1},
            {LEAST, 0, 1}, {0, LEAST, 1}, {MOST, MOST, MOST}, {1, 0, MOST}, {LEAST, LEAST, LEAST}};
        for (int[] w : wrong) {
            Due.due("copy " + Arrays.toString(w), INDEX, x.copy(0, w[0], 1, w[1], w[2]));
            Due.due("copy the other way " + Arrays.toString(w), INDEX, x.copy(1, w[1], 0, w[0], w[2]));
        }
    }

    private static void copiesAsTheyWere() {
        Due.of("Promise 39: places come to another one (or the same), as they were");
        RegretLocks x = new RegretLocks();
        x.sheet(0, 1, 5);
        marks(x, 0, 1, NONE, 3, 4, 5);
        Due.due("onwards by one", 4, x.copy(0, 0, 0, 1, 4));
        row(x, 0, 1, 1, KIND, 3, 4);
        Due.due("backwards by one", 4, x.copy(0, 1, 0, 0, 4));
        row(x, 0, 1, KIND, 3, 4, 4);
        Due.due("onto themselves", 5, x.copy(0, 0, 0, 0, 5));
        row(x, 0, 1, KIND, 3, 4, 4);
        x.sheet(1, 1, 2);
        marks(x, 1, 8, 9);
        Due.due("none", 0, x.copy(0, 0, 1, 0, 0));
        row(x, 1, 8, 9);
        Due.due("two", 2, x.copy(0, 1, 1, 0, 2));
        row(x, 1, KIND, 3);
        x.mark(0, 2, 7);
        row(x, 1, KIND, 3);
    }

    private static void copiesInOrder() {
        Due.of("Promise 39: BAD; NOTHING; KIND: they are not of one sort; INDEX: of several the first");
        RegretLocks x = new RegretLocks();
        x.sheet(0, 0, 2);
        x.sheet(1, 1, 2);
        int[][] places = {{0, 0, 0}, {0, 0, 1}, {-1, -1, -1}, {9, 9, 9}, {0, 0, LEAST}, {MOST, MOST, MOST}};
        for (int[] w : places) {
            Due.due("of two sorts", KIND, x.copy(0, w[0], 1, w[1], w[2]));
            Due.due("of two sorts", KIND, x.copy(1, w[0], 0, w[1], w[2]));
            Due.due("from a missing one", NOTHING, x.copy(2, w[0], 1, w[1], w[2]));
            Due.due("to a missing one", NOTHING, x.copy(1, w[0], 2, w[1], w[2]));
            Due.due("from none to a missing one", BAD, x.copy(4, w[0], 2, w[1], w[2]));
            Due.due("from a missing one to none", BAD, x.copy(2, w[0], -1, w[1], w[2]));
        }
    }

    private static void fiveSlots() {
        Due.of("Terms 5: SLOTS 0 .. 4 each hold nothing (at first)");
        RegretLocks x = new RegretLocks();
        for (int slot = 0; slot < 5; slot++) {
            Due.due("ask", NOTHING, x.ask(slot, 0));
            Due.due("item", NOTHING, x.item(slot, 0));
            Due.due("rest", NOTHING, x.rest(slot, 1));
            Due.due("nothing held", 0, x.lay(slot, 3, 10 + slot));
        }
        for (int slot = 0; slot < 5; slot++) {
            Due.due("each its own", 10 + slot, x.rest(slot, 100));
        }
        for (int none : new int[] {-1, 5, LEAST, MOST}) {
            Due.due("lay", BAD, x.lay(none, 0, 0));
            Due.due("ask", BAD, x.ask(none, 0));
            Due.due("item", BAD, x.item(none, 0));
            Due.due("rest", BAD, x.rest(none, 1));
        }
    }

    private static void laysAsItIsThen() {
        Due.of("Promise 40: thing 0 nothing, 1 ONE k, 2 SHEET k, 3 the number k: what it held (0 .. 3)");
        RegretLocks x = new RegretLocks();
        for (int i = 0; i < 8; i++) {
            x.one(0, 0, i, 0, 0);
        }
        x.sheet(3, 1, 0);
        for (int first = 0; first < 4; first++) {
            for (int then = 0; then < 4; then++) {
                x.lay(2, first, 3);
                Due.due("held " + first + ", holds " + then, first, x.lay(2, then, 3));
                Due.due("ask", then == 0 ? NOTHING : then == 1 ? 3 : KIND, x.ask(2, 0));
                Due.due("item", then == 0 ? NOTHING : then == 2 ? INDEX : KIND, x.item(2, 0));
                Due.due("rest", then == 0 ? NOTHING : then == 3 ? 3 : KIND, x.rest(2, 100));
            }
        }
        Due.due("the first one", 3, x.lay(2, 1, 0));
        Due.due("the eighth one", 1, x.lay(2, 1, 7));
        Due.due("a ninth", BAD, x.lay(2, 1, 8));
        Due.due("the eighth still", 7, x.ask(2, 0));
        for (int k : new int[] {LEAST, MOST, 0, -1}) {
            x.lay(2, 3, k);
            Due.due("the number " + k, k % 1000, x.rest(2, 1000));
            Due.due("nothing, whatever k", 3, x.lay(2, 0, k));
        }
    }

    private static void laysForGood() {
        Due.of("Terms 5: one of the PEOPLE (as it is then, for good), a SHEET (a row of its own, as it was then)");
        RegretLocks x = new RegretLocks();
        x.keep();
        x.one(3, 4, 10, 20, 30);
        x.sheet(0, 1, 2);
        marks(x, 0, 5, NONE);
        x.lay(0, 1, 0);
        x.lay(1, 2, 0);
        x.lay(2, 2, 0);
        x.turns(0, 2);
        x.set(0, 2, 99);
        x.mark(0, 0, 6);
        x.mark(0, 1, 6);
        Due.due("a general still", 128, x.ask(0, 3));
        Due.due("5 still", 5, x.item(1, 0));
        Due.due("no number still", KIND, x.item(1, 1));
        x.sheet(0, 0, 1);
        Due.due("two places still", KIND, x.item(1, 1));
        Due.due("no more", INDEX, x.item(1, 2));
        x.sheet(0, -1, 0);
        Due.due("5 still", 5, x.item(1, 0));
        x.back();
        Due.due("nobody is there any more", 0, x.count(0));
        Due.due("but the one in the slot", 128, x.ask(0, 1));
        Due.due("and the row in the slot", 5, x.item(2, 0));
        x.sheet(0, 1, 1);
        x.mark(0, 0, 9);
        x.lay(1, 2, 0);
        Due.due("another row in this slot", 9, x.item(1, 0));
        Due.due("it is shorter", INDEX, x.item(1, 1));
        Due.due("not in that one", 5, x.item(2, 0));
    }

    private static void laysInOrder() {
        Due.of("Promise 40: BAD: slot, thing, k; NOTHING: that SHEET is MISSING");
        RegretLocks x = new RegretLocks();
        x.lay(0, 3, 7);
        for (int thing : new int[] {-1, 4, LEAST, MOST}) {
            Due.due("thing " + thing, BAD, x.lay(0, thing, 0));
        }
        for (int k : new int[] {-1, 0, 8, LEAST, MOST}) {
            Due.due("one " + k + " of none", BAD, x.lay(0, 1, k));
        }
        for (int k : new int[] {-1, 4, LEAST, MOST}) {
            Due.due("sheet " + k, BAD, x.lay(0, 2, k));
        }
        for (int k = 0; k < 4; k++) {
            Due.due("missing sheet " + k, NOTHING, x.lay(0, 2, k));
            Due.due("missing sheet " + k + ", no slot", BAD, x.lay(5, 2, k));
        }
        Due.due("7 still", 7, x.rest(0, 100));
    }

    private static void asks() {
        Due.of("Promise 41: WORTH of the ONE in a SLOT, taken for one of a KIND (0 .. 5)");
        RegretLocks x = new RegretLocks();
        int[] above = {-1, 0, 0, 1, 2, 0};
        int[] worth = {297, 301, 3, 602, -2, 6};
        for (int kind = 0; kind < 6; kind++) {
            x.one(kind, 0, 99, 99, 99);
            x.lay(0, 1, kind);
            for (int other = 0; other < 6; other++) {
                boolean is = false;
                for (int step = kind; step >= 0; step = above[step]) {
                    is |= step == other;
                }
                Due.due(kind + " as " + other, is ? worth[kind] : KIND, x.ask(0, other));
            }
        }
        Due.of("Promise 41: BAD; NOTHING; KIND: it is no ONE: of several the first");
        x.sheet(0, 0, 1);
        x.lay(1, 2, 0);
        x.lay(2, 3, 0);
        for (int kind : new int[] {-1, 6, LEAST, MOST}) {
            for (int slot = 0; slot < 4; slot++) {
                Due.due("slot " + slot + ", kind " + kind, BAD, x.ask(slot, kind));
            }
        }
        for (int kind = 0; kind < 6; kind++) {
            Due.due("a sheet", KIND, x.ask(1, kind));
            Due.due("a number", KIND, x.ask(2, kind));
            Due.due("nothing", NOTHING, x.ask(3, kind));
        }
    }

    private static void items() {
        Due.of("Promise 42: BAD: slot; NOTHING; KIND: it is no SHEET; INDEX; KIND: NO NUMBER");
        RegretLocks x = new RegretLocks();
        x.one(0, 0, 0, 0, 0);
        x.sheet(0, 1, 24);
        x.mark(0, 0, NONE);
        x.mark(0, 23, -99999);
        x.sheet(1, 0, 0);
        x.lay(0, 2, 0);
        x.lay(1, 2, 1);
        x.lay(2, 1, 0);
        x.lay(3, 3, 0);
        Due.due("no number", KIND, x.item(0, 0));
        Due.due("the last", -99999, x.item(0, 23));
        for (int place : new int[] {-1, 24, LEAST, MOST}) {
            Due.due("place " + place, INDEX, x.item(0, place));
            Due.due("place " + place + " of none", INDEX, x.item(1, place));
            Due.due("place " + place + " of one", KIND, x.item(2, place));
            Due.due("place " + place + " of a number", KIND, x.item(3, place));
            Due.due("place " + place + " of nothing", NOTHING, x.item(4, place));
            Due.due("place " + place + " of no slot", BAD, x.item(5, place));
        }
        Due.due("the first of none", INDEX, x.item(1, 0));
    }

    private static void rests() {
        Due.of("Promise 43: the rest of the number in a SLOT by n; Terms: / cuts towards 0");
        int[] numbers = {0, 1, -1, 17, -17, LEAST, MOST, LEAST + 1};
        RegretLocks x = new RegretLocks();
        for (int number : numbers) {
            x.lay(0, 3, number);
            for (int n : new int[] {1, -1, 2, -2, 5, -5, 17, LEAST, MOST}) {
                long due = number - (long) number / n * n;
                Due.due(number + " by " + n, due, x.rest(0, n));
            }
            Due.due(number + " by 0", NO, x.rest(0, 0));
        }
        Due.of("Promise 43: BAD: slot; NOTHING; KIND: it is no number; NO: n is 0: of several the first");
        x.one(0, 0, 0, 0, 0);
        x.sheet(0, 0, 1);
        x.lay(1, 1, 0);
        x.lay(2, 2, 0);
        for (int n : new int[] {0, 1, LEAST}) {
            Due.due("one by " + n, KIND, x.rest(1, n));
            Due.due("a sheet by " + n, KIND, x.rest(2, n));
            Due.due("nothing by " + n, NOTHING, x.rest(3, n));
            Due.due("no slot by " + n, BAD, x.rest(5, n));
        }
    }
}
