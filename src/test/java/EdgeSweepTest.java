import java.util.Map;
import java.util.TreeMap;

/**
 * Each call with all its arguments at, right before and right behind the edges of what they may be, in all
 * ways together, in a new, a mixed, a full and a late town: answered by the class and by the model.
 */
public final class EdgeSweepTest {
    private static final int NONE = RegretLocks.NONE, LEAST = Integer.MIN_VALUE, MOST = Integer.MAX_VALUE;
    /** What an object may be asked, less what is asked behind a call that was answered. */
    private static final int CALLS = 380;
    private static final int[] ONE = {LEAST, -1, 0, 2, 3, 7, 8, MOST};
    private static final int[] LOCK = {LEAST, -1, 0, 1, 2, 9, 10, MOST};
    private static final int[] ROOM = {LEAST, -1, 0, 7, 8, MOST};
    private static final int[] KINDS = {LEAST, -1, 0, 1, 2, 3, 4, 5, 6, MOST};
    private static final int[] SHEET = {LEAST, -1, 0, 1, 2, 3, 4, MOST};
    private static final int[] SLOT = {LEAST, -1, 0, 1, 2, 3, 4, 5, MOST};
    private static final int[] WHAT = {LEAST, -1, 0, 1, 2, 3, 4, 5, 6, 7, 8, 9, 10, 11, 12, MOST};
    private static final int[] TWO = {LEAST, -1, 0, 1, 2, MOST};
    private static final int[] PLACE = {LEAST, -1, 0, 1, 2, 3, 23, 24, 25, MOST};
    private static final int[] FEW = {LEAST, -1, 0, 1, 3, 24, 25, MOST};
    private static final Map<String, int[][]> EDGES = new TreeMap<>();
    private static int asked = 0;

    static {
        int[] regret = {-1, 0, 99, 100};
        int[] any = {LEAST, -1, 0, 1, MOST};
        EDGES.put("one", new int[][] {{-1, 0, 5, 6}, {-1, 0, 7, 8}, regret, regret, regret});
        EDGES.put("told", new int[][] {ONE, WHAT});
        EDGES.put("as", new int[][] {ONE, KINDS});
        EDGES.put("turns", new int[][] {ONE, KINDS});
        EDGES.put("set", new int[][] {ONE, WHAT, {LEAST, -1, 0, 7, 8, 99, 100, MOST}});
        EDGES.put("lock", new int[][] {ROOM, ROOM, {-1, 0, 2, 3}, {LEAST, -1, 0, 99, 100, MOST}});
        EDGES.put("about", new int[][] {LOCK, WHAT});
        EDGES.put("sets", new int[][] {LOCK, {LEAST, -1, 0, 1, 2, 3, 4, MOST}, {LEAST, -1, 0, 2, 3, 7, 8, 99, 100, MOST}});
        EDGES.put("mends", new int[][] {LOCK});
        EDGES.put("rule", new int[][] {TWO, {LEAST, -1, 0, 1, 99, 100, 101, MOST}});
        EDGES.put("at", new int[][] {WHAT});
        EDGES.put("deal", new int[][] {WHAT});
        EDGES.put("seed", new int[][] {any});
        EDGES.put("passes", new int[][] {ONE, LOCK});
        EDGES.put("days", new int[][] {{LEAST, -1, 0, 1, 2, 99, 100, 101, MOST}});
        EDGES.put("town", new int[][] {WHAT});
        EDGES.put("reach", new int[][] {ONE});
        EDGES.put("way", new int[][] {ONE, WHAT});
        EDGES.put("pardoned", new int[][] {ONE});
        EDGES.put("just", new int[][] {LOCK, {LEAST, -1, 0, 1, 2, 3, 4, 5, 6, 7, 8, 127, 128, 254, 255, 256, 511, MOST}});
        EDGES.put("sorry", new int[][] {ONE, LOCK});
        EDGES.put("behind", new int[][] {{LEAST, -1, 0, 1, 5, 99, 100, 101, MOST}, WHAT});
        EDGES.put("enters", new int[][] {ONE, WHAT});
        EDGES.put("freed", new int[][] {{LEAST, -1, 0, 1, 5, 59, 60, 61, MOST}, TWO});
        EDGES.put("becomes", new int[][] {ONE, {LEAST, -1, 0, 1, 59, 60, 61, MOST}, TWO});
        EDGES.put("like", new int[][] {SHEET, TWO});
        EDGES.put("fee", new int[][] {});
        EDGES.put("fine", new int[][] {ONE});
        EDGES.put("feed", new int[][] {any, {0}, any});
        EDGES.put("trim", new int[][] {{LEAST, -1, 0, 1, 11, 12, 13, 84, 85, 95, 96, 97, MOST}});
        EDGES.put("text", new int[][] {});
        EDGES.put("textTold", new int[][] {{LEAST, -1, 0, 1, 2, 3, 13, 14, MOST}, TWO});
        EDGES.put("why", new int[][] {{LEAST, -1, 0, 1, 2, 3, MOST}});
        EDGES.put("sheet", new int[][] {SHEET, {LEAST, -2, -1, 0, 1, 2, MOST}, FEW});
        EDGES.put("mark", new int[][] {SHEET, PLACE,
            {LEAST, NONE, -100000, -99999, -32769, -32768, -1, 0, 32767, 32768, 65535, 65536, 99999, 100000, MOST}});
        EDGES.put("pour", new int[][] {SHEET});
        EDGES.put("reads", new int[][] {SHEET});
        EDGES.put("copy", new int[][] {{-1, 0, 1, 2, 3, 4}, FEW, {-1, 0, 1, 2, 3, 4}, FEW, FEW});
        EDGES.put("lay", new int[][] {SLOT, {LEAST, -1, 0, 1, 2, 3, 4, MOST}, ONE});
        EDGES.put("ask", new int[][] {SLOT, KINDS});
        EDGES.put("item", new int[][] {SLOT, PLACE});
        EDGES.put("rest", new int[][] {SLOT, {LEAST, -2, -1, 0, 1, 2, 7, MOST}});
        EDGES.put("tell", new int[][] {any});
        EDGES.put("check", new int[][] {{LEAST, -1, 0, 1, 2, 29, 30, 31, MOST}});
        EDGES.put("keep", new int[][] {});
        EDGES.put("back", new int[][] {});
        EDGES.put("count", new int[][] {WHAT});
    }

    private interface Past {
        void live(Pair pair) throws ReflectiveOperationException;
    }

    private final String town;
    private final Past past;
    private Pair pair;

    private EdgeSweepTest(String town, Past past) {
        this.town = town;
        this.past = past;
    }

    public static void main(String[] args) throws ReflectiveOperationException {
        Due.holds("each call is swept", Pair.names().equals(new java.util.ArrayList<>(EDGES.keySet())));
        EdgeSweepTest[] towns = {
            new EdgeSweepTest("new", p -> { }),
            new EdgeSweepTest("mixed", EdgeSweepTest::mixed),
            new EdgeSweepTest("full", EdgeSweepTest::full),
            new EdgeSweepTest("late", EdgeSweepTest::late)};
        for (EdgeSweepTest sweep : towns) {
            for (String name : EDGES.keySet()) {
                sweep.pair = null;
                sweep.all(name, new int[EDGES.get(name).length], 0);
            }
        }
        System.out.println(asked + " calls at the edges");
        Due.end("EdgeSweepTest");
    }

    private static void mixed(Pair p) throws ReflectiveOperationException {
        p.call("one", 4, 0, 99, 1, 50);
        p.call("one", 5, 1, 3, 2, 1);
        p.call("one", 0, 7, 0, 30, 0);
        p.call("lock", 1, 1, 0, 99);
        p.call("lock", 0, 7, 2, 20);
        p.feed("wear r/9+s");
        p.call("text");
        p.call("seed", Draws.before(0));
        p.call("keep");
        p.call("days", 1);
        p.call("sheet", 0, 1, 3);
        p.call("mark", 0, 1, NONE);
        p.call("mark", 0, 0, 7);
        p.call("sheet", 1, 0, 24);
        p.call("sheet", 3, 1, 0);
        p.call("lay", 1, 1, 0);
        p.call("lay", 2, 2, 0);
        p.call("lay", 3, 3, -17);
        p.feed("fee 1+!e ");
    }

    private static void full(Pair p) throws ReflectiveOperationException {
        p.call("seed", 77);
        p.call("deal", 8);
        for (int i = 0; i < 10; i++) {
            p.call("lock", i % 8, i * 3 % 8, i % 3, 5 * i);
        }
        for (int i = 0; i < 14; i++) {
            p.feed((i % 2 == 0 ? "fine r+" : "fee h-") + i);
            p.call("text");
        }
        p.call("keep");
        p.call("sheet", 0, 0, 24);
        p.call("sheet", 2, 0, 24);
        for (int i = 0; i < 60; i++) {
            p.call("tell", i);
        }
        p.feed("wear " + "(1+".repeat(8) + "2" + ")".repeat(8) + " ".repeat(58));
    }

    private static void late(Pair p) throws ReflectiveOperationException {
        for (int i = 0; i < 99; i++) {
            p.call("days", 100);
        }
        p.call("days", 98);
        mixed(p);
        p.call("feed", 0, 0, 0);
    }

    /** All arguments from one on, behind those that are chosen. */
    private void all(String name, int[] args, int from) throws ReflectiveOperationException {
        if (from == args.length) {
            ask(name, args);
            return;
        }
        for (int v : EDGES.get(name)[from]) {
            args[from] = v;
            all(name, args, from + 1);
        }
    }

    /** Refused calls follow one another on one object, as they change nothing. */
    private void ask(String name, int[] args) throws ReflectiveOperationException {
        if (pair == null || pair.log.size() > CALLS) {
            pair = new Pair();
            past.live(pair);
        }
        int due = pair.call(name, args);
        asked++;
        if (due > RegretLocks.BAD || due == NONE) {
            lookAround();
        }
        if (!pair.isRight()) {
            Due.holds(name + " in the " + town + " town", false);
            pair.tellLog();
            pair = null;
        } else if (due > RegretLocks.BAD) {
            pair = null;
        }
    }

    private void lookAround() throws ReflectiveOperationException {
        for (int what = 0; what < 9; what++) {
            pair.call("count", what);
            pair.call("town", what);
        }
        for (int i = 0; i < 10; i++) {
            for (int what = 0; what < 5; what++) {
                pair.call("told", i, what);
                pair.call("about", i, what);
            }
            pair.call("ask", i, 0);
            pair.call("item", i, 0);
            pair.call("reads", i);
        }
    }
}
