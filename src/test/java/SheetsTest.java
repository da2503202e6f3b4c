/** Promises 35 to 43: sheets, slots. */
public final class SheetsTest {
    private static final int BAD = RegretLocks.BAD, NO = RegretLocks.NO, NONE = RegretLocks.NONE;
    private static final int NOTHING = RegretLocks.NOTHING, KIND = RegretLocks.KIND, INDEX = RegretLocks.INDEX, SIZE = RegretLocks.SIZE;
    private static final int LEAST = Integer.MIN_VALUE, MOST = Integer.MAX_VALUE;

    public static void main(String[] args) {
        promise35Sheet();
        promise36Mark();
        promise37Pour();
        promise38Reads();
        promise39Copy();
        promise39Overlap();
        promise40Lay();
        promise41Ask();
        promise42Item();
        promise43Rest();
        Due.end("SheetsTest");
    }

    /** A sheet's places, as a slot that is laid with it tells them. */
    private static void row(RegretLocks x, int sheet, int... due) {
        x.lay(4, 2, sheet);
        for (int i = 0; i < due.length; i++) {
            Due.due("place " + i + " of sheet " + sheet, due[i], x.item(4, i));
        }
        Due.due("no place behind the last of sheet " + sheet, INDEX, x.item(4, due.length));
    }

    private static void marks(RegretLocks x, int sheet, int... values) {
        for (int i = 0; i < values.length; i++) {
            Due.due("mark", 1, x.mark(sheet, i, values[i]));
        }
    }

    private static void promise35Sheet() {
        RegretLocks x = new RegretLocks();
        for (int sheet = 0; sheet < 4; sheet++) {
            Due.due("missing at first", NOTHING, x.reads(sheet));
            Due.due("24 places", 24, x.sheet(sheet, sheet % 2, 24));
            Due.due("the last place", 1, x.mark(sheet, 23, 5));
            Due.due("no 25th", INDEX, x.mark(sheet, 24, 5));
        }
        Due.due("all 0 again", 3, x.sheet(3, 0, 3));
        row(x, 3, 0, 0, 0);
        Due.due("no places", 0, x.sheet(3, 1, 0));
        row(x, 3);
        Due.due("a longer one is all 0", 24, x.sheet(3, 1, 24));
        row(x, 3, new int[24]);
        Due.due("missing", 0, x.sheet(2, -1, LEAST));
        Due.due("is missing", NOTHING, x.mark(2, 0, 0));
        Due.due("missing, n any", 0, x.sheet(2, -1, 99));
        Due.due("no such sheet", BAD, x.sheet(4, 0, 1));
        Due.due("no such sheet", BAD, x.sheet(-1, 0, 1));
        Due.due("no such sort", BAD, x.sheet(0, 2, 1));
        Due.due("no such sort", BAD, x.sheet(0, -2, 1));
        Due.due("too many", BAD, x.sheet(0, 0, 25));
        Due.due("far too many", BAD, x.sheet(0, 1, MOST));
        Due.due("below 0", SIZE, x.sheet(0, 0, -1));
        Due.due("far below 0", SIZE, x.sheet(0, 1, LEAST));
        Due.due("BAD stands ahead of SIZE", BAD, x.sheet(0, 2, -1));
        Due.due("no such missing sheet", BAD, x.sheet(4, -1, 0));
        x.lay(0, 2, 0);
        Due.due("refusals change nothing", 5, x.item(0, 23));
    }

    private static void promise36Mark() {
        RegretLocks x = new RegretLocks();
        Due.due("missing", NOTHING, x.mark(0, 0, 0));
        x.sheet(0, 0, 6);
        marks(x, 0, 32767, -32768, 32768, 65535, 65536 + 7, LEAST);
        row(x, 0, 32767, -32768, -32768, -1, 7, 0);
        Due.due("no number among shorts", KIND, x.mark(0, 0, NONE));
        Due.due("INDEX stands ahead of KIND", INDEX, x.mark(0, 6, NONE));
        Due.due("below 0", INDEX, x.mark(0, -1, 1));
        x.sheet(1, 1, 4);
        marks(x, 1, 99999, -99999, NONE, 0);
        row(x, 1, 99999, -99999, KIND, 0);
        Due.due("too much", BAD, x.mark(1, 0, 100000));
        Due.due("too little", BAD, x.mark(1, 0, -100000));
        Due.due("another finding is no number", BAD, x.mark(1, 0, NOTHING));
        Due.due("INDEX stands ahead of BAD", INDEX, x.mark(1, 4, 100000));
        Due.due("far off", INDEX, x.mark(1, LEAST, 1));
        Due.due("a number again", 1, x.mark(1, 2, 12));
        row(x, 1, 99999, -99999, 12, 0);
        Due.due("no such sheet", BAD, x.mark(4, 0, 0));
        Due.due("no such sheet", BAD, x.mark(-1, 0, 0));
        Due.due("NOTHING stands ahead of INDEX", NOTHING, x.mark(2, 99, 0));
    }

    private static void promise37Pour() {
        RegretLocks x = new RegretLocks();
        x.sheet(0, 1, 5);
        Due.due("nobody", 0, x.pour(0));
        for (int i = 0; i < 6; i++) {
            x.one(i, 0, 10, 20, 30);
        }
        marks(x, 0, 10, 99999, -99999, NONE, 11);
        Due.due("three are otherwise", 3, x.pour(0));
        int[] due = {10, 99, 0, 10, 11, 10};
        for (int i = 0; i < 6; i++) {
            Due.due("regret of " + i, due[i], x.told(i, 2));
            Due.due("no other sort", 20, x.told(i, 3));
        }
        Due.due("none is otherwise any more", 0, x.pour(0));
        x.sheet(1, 0, 24);
        Due.due("all", 5, x.pour(1));
        Due.due("shorts, more than there are people", 0, x.told(5, 2));
        Due.due("missing", NOTHING, x.pour(2));
        Due.due("no such sheet", BAD, x.pour(4));
        Due.due("no such sheet", BAD, x.pour(-1));
    }

    private static void promise38Reads() {
        RegretLocks x = new RegretLocks();
        x.sheet(0, 1, 4);
        Due.due("nobody's rooms", 0, x.reads(0));
        marks(x, 0, NONE, NONE, NONE, NONE);
        Due.due("no numbers", NONE, x.reads(0));
        x.one(0, 3, 0, 0, 0);
        x.one(0, 5, 0, 0, 0);
        marks(x, 0, 3, 5);
        Due.due("all as read", NONE, x.reads(0));
        x.mark(0, 3, 0);
        Due.due("a number for nobody", 3, x.reads(0));
        x.mark(0, 1, 4);
        Due.due("the first", 1, x.reads(0));
        x.mark(0, 0, 0);
        Due.due("the very first", 0, x.reads(0));
        x.sheet(0, 0, 1);
        x.mark(0, 0, 65536 + 3);
        Due.due("shorts", NONE, x.reads(0));
        x.sheet(0, 0, 0);
        Due.due("no places", NONE, x.reads(0));
        Due.due("missing", NOTHING, x.reads(1));
        Due.due("no such sheet", BAD, x.reads(4));
        Due.due("no such sheet", BAD, x.reads(-1));
    }

    private static void promise39Copy() {
        RegretLocks x = new RegretLocks();
        x.sheet(0, 1, 5);
        marks(x, 0, 1, NONE, 3, 4, 5);
        x.sheet(1, 1, 4);
        marks(x, 1, 11, 12, 13, 14);
        x.sheet(2, 0, 5);
        Due.due("three", 3, x.copy(0, 1, 1, 0, 3));
        row(x, 1, KIND, 3, 4, 14);
        row(x, 0, 1, KIND, 3, 4, 5);
        Due.due("none", 0, x.copy(0, 5, 1, 4, 0));
        Due.due("all", 4, x.copy(0, 0, 1, 0, 4));
        row(x, 1, 1, KIND, 3, 4);
        int[][] wrong = {{0, 0, 1, 0, 5}, {0, 2, 1, 0, 4}, {0, 0, 1, 1, 4}, {0, -1, 1, 0, 1}, {0, 0, 1, -1, 1},
            {0, 6, 1, 0, 0}, {0, 0, 1, 5, 0}, {0, 0, 1, 0, -1}, {0, MOST, 1, 0, 1}, {0, 1, 1, 0, MOST},
            {0, 0, 1, MOST, MOST}, {0, 0, 1, 0, LEAST}, {0, LEAST, 1, LEAST, LEAST}};
        for (int[] w : wrong) {
            Due.due("no such places", INDEX, x.copy(w[0], w[1], w[2], w[3], w[4]));
        }
        Due.due("not of one sort", KIND, x.copy(0, 0, 2, 0, 1));
        Due.due("not of one sort", KIND, x.copy(2, 0, 0, 0, 1));
        Due.due("KIND stands ahead of INDEX", KIND, x.copy(0, 9, 2, 9, 9));
        Due.due("missing", NOTHING, x.copy(0, 0, 3, 0, 1));
        Due.due("missing", NOTHING, x.copy(3, 0, 0, 0, 1));
        Due.due("NOTHING stands ahead of INDEX", NOTHING, x.copy(3, 9, 2, 9, -9));
        Due.due("BAD stands ahead of NOTHING", BAD, x.copy(3, 0, 4, 0, 1));
        Due.due("no such sheet", BAD, x.copy(-1, 0, 0, 0, 1));
        Due.due("no such sheet", BAD, x.copy(4, 0, 0, 0, 1));
        Due.due("no such sheet", BAD, x.copy(0, 0, -1, 0, 1));
        row(x, 1, 1, KIND, 3, 4);
    }

    private static void promise39Overlap() {
        RegretLocks x = new RegretLocks();
        x.sheet(0, 0, 5);
        marks(x, 0, 1, 2, 3, 4, 5);
        Due.due("onwards", 4, x.copy(0, 0, 0, 1, 4));
        row(x, 0, 1, 1, 2, 3, 4);
        Due.due("backwards", 3, x.copy(0, 2, 0, 0, 3));
        row(x, 0, 2, 3, 4, 3, 4);
        Due.due("onto itself", 5, x.copy(0, 0, 0, 0, 5));
        row(x, 0, 2, 3, 4, 3, 4);
    }

    private static void promise40Lay() {
        RegretLocks x = new RegretLocks();
        x.one(1, 2, 10, 20, 30);
        x.sheet(0, 1, 2);
        for (int slot = 0; slot < 5; slot++) {
            Due.due("held nothing", 0, x.lay(slot, 1, 0));
            Due.due("held one", 1, x.lay(slot, 2, 0));
            Due.due("held a sheet", 2, x.lay(slot, 3, -1));
            Due.due("held a number", 3, x.lay(slot, 0, 99));
            Due.due("holds nothing", NOTHING, x.rest(slot, 1));
        }
        x.lay(0, 1, 0);
        x.turns(0, 0);
        x.set(0, 2, 0);
        Due.due("as it was then", 64, x.ask(0, 1));
        x.lay(1, 2, 0);
        x.mark(0, 0, 7);
        Due.due("as it was then", 0, x.item(1, 0));
        x.sheet(0, -1, 0);
        Due.due("as it was then", 0, x.item(1, 1));
        Due.due("no such slot", BAD, x.lay(5, 0, 0));
        Due.due("no such slot", BAD, x.lay(-1, 0, 0));
        Due.due("no such thing", BAD, x.lay(0, 4, 0));
        Due.due("no such thing", BAD, x.lay(0, -1, 0));
        Due.due("no such one", BAD, x.lay(0, 1, 1));
        Due.due("no such one", BAD, x.lay(0, 1, -1));
        Due.due("no such sheet", BAD, x.lay(0, 2, 4));
        Due.due("no such sheet", BAD, x.lay(0, 2, -1));
        Due.due("a missing sheet", NOTHING, x.lay(0, 2, 0));
        Due.due("holds one still", 64, x.ask(0, 0));
        x.keep();
        x.lay(2, 3, 5);
        x.back();
        Due.due("slots stay when all goes back", 5, x.rest(2, 7));
    }

    private static void promise41Ask() {
        RegretLocks x = new RegretLocks();
        for (int kind = 0; kind < 6; kind++) {
            x.one(kind, 0, 10, 20, 30);
            x.lay(0, 1, kind);
            for (int other = 0; other < 6; other++) {
                int due = x.as(kind, other) == KIND ? KIND : x.told(kind, 8);
                Due.due("ask of " + kind + " as " + other, due, x.ask(0, other));
            }
        }
        Due.due("holds nothing", NOTHING, x.ask(1, 0));
        x.lay(1, 3, 0);
        Due.due("a number is no one", KIND, x.ask(1, 0));
        x.sheet(0, 0, 1);
        x.lay(1, 2, 0);
        Due.due("a sheet is no one", KIND, x.ask(1, 0));
        Due.due("no such slot", BAD, x.ask(5, 0));
        Due.due("no such slot", BAD, x.ask(-1, 0));
        Due.due("no such kind", BAD, x.ask(0, 6));
        Due.due("no such kind", BAD, x.ask(0, -1));
        Due.due("BAD stands ahead of NOTHING", BAD, x.ask(2, 6));
    }

    private static void promise42Item() {
        RegretLocks x = new RegretLocks();
        x.sheet(0, 0, 3);
        marks(x, 0, -5, 6, 40000);
        x.sheet(1, 1, 3);
        marks(x, 1, -99999, NONE, 5);
        x.lay(0, 2, 0);
        x.lay(1, 2, 1);
        int[] shorts = {-5, 6, 40000 - 65536};
        int[] floats = {-99999, KIND, 5};
        for (int i = 0; i < 3; i++) {
            Due.due("a short", shorts[i], x.item(0, i));
            Due.due("a float", floats[i], x.item(1, i));
        }
        Due.due("no such place", INDEX, x.item(0, 3));
        Due.due("no such place", INDEX, x.item(1, -1));
        Due.due("far off", INDEX, x.item(1, LEAST));
        Due.due("holds nothing", NOTHING, x.item(2, 0));
        x.lay(2, 3, 0);
        Due.due("a number is no sheet", KIND, x.item(2, 0));
        Due.due("KIND stands ahead of INDEX", KIND, x.item(2, 99));
        x.one(0, 0, 0, 0, 0);
        x.lay(2, 1, 0);
        Due.due("one is no sheet", KIND, x.item(2, 0));
        Due.due("no such slot", BAD, x.item(5, 0));
        Due.due("no such slot", BAD, x.item(-1, 0));
    }

    private static void promise43Rest() {
        RegretLocks x = new RegretLocks();
        x.lay(0, 3, 17);
        Due.due("17 by 5", 2, x.rest(0, 5));
        Due.due("17 by -5", 2, x.rest(0, -5));
        Due.due("by 0", NO, x.rest(0, 0));
        x.lay(0, 3, -17);
        Due.due("-17 by 5", -2, x.rest(0, 5));
        Due.due("-17 by -5", -2, x.rest(0, -5));
        x.lay(0, 3, LEAST);
        Due.due("the least by -1", 0, x.rest(0, -1));
        Due.due("the least by the most", -1, x.rest(0, MOST));
        Due.due("holds nothing", NOTHING, x.rest(1, 1));
        Due.due("NOTHING stands ahead of NO", NOTHING, x.rest(1, 0));
        x.sheet(0, 0, 1);
        x.lay(1, 2, 0);
        Due.due("a sheet is no number", KIND, x.rest(1, 1));
        Due.due("KIND stands ahead of NO", KIND, x.rest(1, 0));
        x.one(0, 0, 0, 0, 0);
        x.lay(1, 1, 0);
        Due.due("one is no number", KIND, x.rest(1, 1));
        Due.due("no such slot", BAD, x.rest(5, 1));
        Due.due("no such slot", BAD, x.rest(-1, 0));
    }
}
