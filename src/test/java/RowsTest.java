/** Promises 44 to 48: rows, images. */
public final class RowsTest {
    private static final int BAD = RegretLocks.BAD, NO = RegretLocks.NO, FULL = RegretLocks.FULL;

    public static void main(String[] args) {
        promise44Tell();
        promise45Check();
        promise45ByTheImage();
        promise45TheLastDay();
        promise46And47Image();
        promise47WhatStays();
        promise48Count();
        Due.end("RowsTest");
    }

    private static void promise44Tell() {
        RegretLocks x = new RegretLocks();
        for (int i = 1; i <= 60; i++) {
            Due.due("tell " + i, i, x.tell(Integer.MIN_VALUE + i));
        }
        Due.due("one more", FULL, x.tell(1));
        Due.due("sixty wait", 60, x.count(6));
        x.check(1);
        Due.due("one again", 1, x.tell(1));
    }

    private static void tell(RegretLocks x, int... values) {
        for (int v : values) {
            x.tell(v);
        }
    }

    /** A town whose days are told by 5, 27; 6, 25; 7, 23. */
    private static RegretLocks plain() {
        RegretLocks x = new RegretLocks();
        x.rule(0, 0);
        x.rule(1, 0);
        x.one(0, 0, 19, 9, 9);
        x.lock(0, 0, 0, 0);
        x.days(4);
        return x;
    }

    private static void checked(RegretLocks x, int due, int n, int... values) {
        tell(x, values);
        Due.due("check(" + n + ") of " + java.util.Arrays.toString(values), due, x.check(n));
        Due.due("none wait then", 0, x.count(6));
    }

    private static void promise45Check() {
        RegretLocks x = plain();
        checked(x, NO, 1, 5, 27);
        checked(x, BAD, 0, 5, 27);
        checked(x, BAD, 31, 5, 27);
        checked(x, BAD, -1);
        x.keep();
        checked(x, 0, 1, 5, 27);
        checked(x, 0, 3, 5, 27, 6, 25, 7, 23);
        checked(x, 1, 1);
        checked(x, 2, 1, 5);
        checked(x, 1, 1, 4, 27);
        checked(x, 2, 1, 5, 28);
        checked(x, 3, 1, 5, 27, 6);
        checked(x, 3, 1, 5, 27, 6, 25);
        checked(x, 3, 2, 5, 27);
        checked(x, 4, 2, 5, 27, 6);
        checked(x, 4, 2, 5, 27, 6, 24);
        checked(x, 5, 2, 5, 27, 6, 25, 7);
        checked(x, 3, 3, 5, 27, 5, 25, 7, 23);
        checked(x, BAD, 31, 5, 27);
        int[] thirty = new int[60];
        for (int i = 0; i < 30; i++) {
            thirty[2 * i] = 5 + i;
            thirty[2 * i + 1] = Math.max(29 - 2 * (i + 1), 18);
        }
        checked(x, 0, 30, thirty);
        thirty[59]++;
        checked(x, 60, 30, thirty);
        Due.due("the day is as it was", 4, x.count(1));
        Due.due("entries are as they were", 4, x.town(0));
        Draws draws = new Draws(1);
        for (int i = 0; i < 8; i++) {
            draws.rest(1);
        }
        Due.due("z is as it was", draws.z(), x.count(8));
    }

    private static void promise45ByTheImage() {
        RegretLocks x = plain();
        x.keep();
        x.days(9);
        x.one(3, 3, 9, 9, 9);
        x.lock(3, 3, 0, 0);
        x.rule(0, 100);
        Due.text(x, "wear 9");
        Due.text(x, "fee 9");
        x.seed(99);
        checked(x, 0, 2, 5, 27, 6, 25);
        x.back();
        Due.text(x, "wear 1");
        x.keep();
        checked(x, 0, 2, 5, 28, 6, 27);
        for (int seed = 0; seed < 20; seed++) {
            RegretLocks y = new RegretLocks();
            y.seed(seed);
            y.deal(8);
            for (int i = 0; i < 10; i++) {
                y.lock(i % 8, (i * 5 + 2) % 8, i % 3, 5 * i);
            }
            y.days(seed + 1);
            y.keep();
            int[] rows = new int[60];
            for (int i = 0; i < 30; i++) {
                y.days(1);
                rows[2 * i] = y.town(0);
                rows[2 * i + 1] = y.town(3);
            }
            checked(y, 0, 30, rows);
        }
    }

    private static void promise45TheLastDay() {
        RegretLocks x = new RegretLocks();
        x.rule(0, 0);
        x.rule(1, 0);
        for (int i = 0; i < 99; i++) {
            x.days(100);
        }
        x.days(98);
        x.one(0, 0, 9, 9, 9);
        x.lock(0, 0, 0, 0);
        x.keep();
        checked(x, 0, 30, 1, 25);
        checked(x, 3, 30, 1, 25, 2, 23);
        checked(x, 1, 30);
        x.days(1);
        x.keep();
        checked(x, 0, 30);
        checked(x, 1, 30, 2);
    }

    private static void promise46And47Image() {
        RegretLocks x = new RegretLocks();
        Due.due("no image", NO, x.back());
        Due.due("nobody is kept", 0, x.keep());
        x.seed(4);
        x.deal(3);
        x.lock(0, 1, 2, 40);
        x.lock(2, 3, 1, 50);
        x.rule(0, 77);
        x.rule(1, 66);
        Due.text(x, "wear 7");
        Due.text(x, "fine 1");
        x.days(3);
        Due.due("three are kept", 3, x.keep());
        int[] was = all(x);
        for (int again = 0; again < 3; again++) {
            x.deal(5);
            x.turns(0, 4);
            x.set(1, 1, 7);
            x.set(1, 2, 99);
            x.sets(0, 0, 5);
            x.sets(1, 3, 1);
            x.lock(1, 1, 1, 1);
            x.rule(0, 1);
            x.rule(1, 2);
            Due.text(x, "fine 2");
            Due.text(x, "fee 2");
            x.days(12);
            x.seed(again);
            Due.due("back", 3, x.back());
            int[] is = all(x);
            for (int i = 0; i < is.length; i++) {
                Due.due("all is as it was, row " + i, was[i], is[i]);
            }
        }
        Due.text(x, "fine 3");
        Due.due("texts go on from there", 2, x.why(2));
        Due.due("and count", 3, x.fine(0));
        x.days(20);
        int[] then = all(x);
        x.back();
        x.days(8);
        x.days(12);
        Due.due("days gone on from there in two steps: entries", then[0], all(x)[0]);
        Due.due("and regrets", then[3], all(x)[3]);
        Due.due("and z", then[13], all(x)[13]);
        RegretLocks y = new RegretLocks();
        y.keep();
        y.deal(8);
        Due.due("back to nobody", 0, y.back());
        Due.due("nobody", 0, y.count(0));
        Due.due("nobody's room", BAD, y.told(0, 1));
    }

    private static int[] all(RegretLocks x) {
        int[] rows = new int[100];
        int n = 0;
        for (int i = 0; i < 5; i++) {
            rows[n++] = x.town(i);
        }
        for (int i = 0; i < 9; i++) {
            rows[n++] = x.count(i);
        }
        for (int one = 0; one < 4; one++) {
            for (int what = 0; what < 9; what++) {
                rows[n++] = x.told(one, what);
            }
            rows[n++] = x.fine(one);
        }
        for (int lock = 0; lock < 3; lock++) {
            for (int what = 0; what < 6; what++) {
                rows[n++] = x.about(lock, what);
            }
        }
        for (int i = 0; i < 3; i++) {
            rows[n++] = x.why(i);
            rows[n++] = x.textTold(i, 0);
            rows[n++] = x.textTold(i, 1);
        }
        rows[n++] = x.fee();
        rows[n++] = x.behind(50, 0);
        return java.util.Arrays.copyOf(rows, n);
    }

    /** Jams are kept, too; sheets, slots, numbers that wait and the tape are not. */
    private static void promise47WhatStays() {
        RegretLocks x = new RegretLocks();
        x.rule(0, 0);
        x.rule(1, 0);
        x.one(5, 0, 0, 0, 0);
        x.lock(0, 0, 0, 99);
        for (int i = 0; i < 50 && x.town(4) == 0; i++) {
            x.days(1);
        }
        x.keep();
        x.mends(0);
        x.sheet(1, 0, 3);
        x.mark(1, 2, 8);
        x.lay(3, 3, 12);
        x.tell(1);
        x.tell(2);
        x.feed(1, 2, 3);
        x.back();
        Due.due("jammed again", 1, x.town(4));
        x.lay(0, 2, 1);
        Due.due("the sheet stays", 8, x.item(0, 2));
        Due.due("the slot stays", 2, x.rest(3, 10));
        Due.due("what waits stays", 2, x.count(6));
        Due.due("the tape stays", 12, x.count(7));
        x.mends(0);
        x.keep();
        x.back();
        Due.due("the newer image counts", 0, x.town(4));
        jamBehindTheImage();
    }

    /** A lock that is new behind a way back is not jammed, whatever had its number. */
    private static void jamBehindTheImage() {
        RegretLocks x = new RegretLocks();
        x.rule(0, 0);
        x.rule(1, 0);
        x.one(5, 0, 0, 0, 0);
        x.keep();
        x.lock(0, 0, 0, 99);
        for (int i = 0; i < 50 && x.town(4) == 0; i++) {
            x.days(1);
        }
        Due.due("jammed", 1, x.about(0, 4));
        x.back();
        Due.due("no locks", BAD, x.about(0, 4));
        Due.due("a new lock", 0, x.lock(0, 0, 0, 0));
        Due.due("is not jammed", 0, x.about(0, 4));
        Due.due("and opens", 1, x.about(0, 5));
    }

    private static void promise48Count() {
        RegretLocks x = new RegretLocks();
        x.deal(2);
        x.one(0, 0, 0, 0, 0);
        x.days(6);
        x.lock(0, 0, 0, 0);
        x.rule(0, 41);
        x.rule(1, 42);
        Due.text(x, "fee 1");
        x.tell(0);
        x.tell(0);
        x.feed(0, 0, 0);
        x.seed(-5);
        int[] due = {3, 6, 1, 41, 42, 1, 2, 12, -5};
        for (int i = 0; i < due.length; i++) {
            Due.due("count(" + i + ")", due[i], x.count(i));
        }
        Due.due("count of nothing", BAD, x.count(9));
        Due.due("count of nothing", BAD, x.count(-1));
    }
}
