import java.lang.management.ManagementFactory;

/** All calls of a run live in one room: calls make nothing new, but for texts that are told. */
public final class RoomTest {
    private static final com.sun.management.ThreadMXBean BEAN =
        (com.sun.management.ThreadMXBean) ManagementFactory.getThreadMXBean();

    /** What the machine may make by itself, fewer bytes than one small object in each of the rounds. */
    private static final int SLACK = 60 * 16;

    private static long made() {
        return BEAN.getCurrentThreadAllocatedBytes();
    }

    public static void main(String[] args) {
        RegretLocks x = busy();
        callAll(x);
        long before = made();
        for (int i = 0; i < 60; i++) {
            callAll(x);
        }
        long calls = made() - before;
        Due.holds("calls that tell no text make nothing: " + calls, calls < SLACK);
        before = made();
        RegretLocks y = new RegretLocks();
        long object = made() - before;
        Due.holds("a new object is small: " + object, object < 20000 && y.count(0) == 0);
        before = made();
        for (int i = 0; i < 100; i++) {
            y.feed(0x66656520, 0x2b31, 0);
            y.text();
        }
        long faults = made() - before;
        Due.holds("texts with faults make nothing: " + faults, faults < SLACK);
        y.feed(0x66656528, 0x652b6829, 0x2f322020);
        before = made();
        Due.due("a text", 0, y.text());
        long text = made() - before;
        Due.holds("a text is small: " + text, text < 2000);
        Due.end("RoomTest");
    }

    private static RegretLocks busy() {
        RegretLocks x = new RegretLocks();
        x.seed(3);
        x.deal(8);
        for (int i = 0; i < 10; i++) {
            x.lock(i % 8, (3 * i + 1) % 8, i % 3, i);
        }
        Due.text(x, "wear r/9+(s=1)|!t");
        Due.text(x, "fine r*o");
        Due.text(x, "fee e-h");
        return x;
    }

    /** Every call but those that tell a text, the dearest as dear as they can be. */
    private static void callAll(RegretLocks x) {
        x.keep();
        x.one(0, 0, 0, 0, 0);
        x.told(0, 8);
        x.as(0, 1);
        x.turns(0, 5);
        x.set(0, 1, 0);
        x.lock(0, 0, 0, 0);
        x.about(0, 5);
        x.sets(0, 3, 50);
        x.mends(0);
        x.rule(0, 50);
        x.at(0);
        x.deal(8);
        x.seed(5);
        x.passes(0, 0);
        x.days(100);
        x.town(4);
        x.reach(0);
        x.way(0, 7);
        x.pardoned(0);
        x.just(0, 0);
        x.sorry(0, 0);
        x.behind(100, 0);
        x.enters(0, 7);
        x.freed(60, 0);
        x.becomes(0, 60, 0);
        x.sheet(0, 1, 24);
        x.like(0, 0);
        x.fee();
        x.fine(0);
        x.feed(0, 0, 0);
        x.trim(0);
        x.textTold(0, 0);
        x.why(0);
        x.mark(0, 0, 3);
        x.pour(0);
        x.reads(0);
        x.copy(0, 0, 0, 1, 8);
        x.lay(0, 1, 0);
        x.ask(0, 0);
        x.lay(0, 2, 0);
        x.item(0, 0);
        x.lay(0, 3, 9);
        x.rest(0, 4);
        x.tell(1);
        x.check(30);
        x.back();
        x.count(8);
    }
}
