import java.util.ArrayList;
import java.util.List;
import java.util.function.Consumer;
import java.util.function.ToIntFunction;

/**
 * Two objects with one past; one of them gets a call more, which is to be refused. What both tell of
 * themselves then must be the same: so nothing changed, not even what can only be told by changing it.
 */
final class Twins {
    private static final int NOTHING = RegretLocks.NOTHING, KIND = RegretLocks.KIND, INDEX = RegretLocks.INDEX;
    private final Consumer<RegretLocks> past;
    private final List<Integer> untouched;

    Twins(Consumer<RegretLocks> past) {
        this.past = past;
        untouched = all(made(), true, true);
    }

    private RegretLocks made() {
        RegretLocks x = new RegretLocks();
        past.accept(x);
        return x;
    }

    void refused(String name, int due, ToIntFunction<RegretLocks> call) {
        RegretLocks x = made();
        Due.due(name, due, call.applyAsInt(x));
        Due.holds(name + " changes nothing", all(x, true, true).equals(untouched));
    }

    /** The call is answered, and changes nothing all the same. */
    void onlyTells(String name, ToIntFunction<RegretLocks> call) {
        RegretLocks x = made();
        Due.holds(name + " is not refused", call.applyAsInt(x) > RegretLocks.BAD);
        Due.holds(name + " changes nothing", all(x, true, true).equals(untouched));
    }

    /** The call uses up the tape, and changes nothing else. */
    void refusedText(String name, int due) {
        RegretLocks x = made();
        Due.due(name, due, x.text());
        Due.due(name + " uses up the tape", 0, x.count(7));
        Due.holds(name + " changes nothing else", all(x, false, true).equals(all(made(), false, true)));
    }

    /** The numbers that wait are gone, and nothing else changes. */
    void refusedCheck(String name, int due, int n) {
        RegretLocks x = made();
        Due.due(name, due, x.check(n));
        Due.due(name + " leaves no number waiting", 0, x.count(6));
        Due.holds(name + " changes nothing else", all(x, true, false).equals(all(made(), true, false)));
    }

    /** All that an object can tell; it is another one behind that. */
    private static List<Integer> all(RegretLocks x, boolean withTape, boolean withNumbers) {
        List<Integer> told = new ArrayList<>();
        if (withNumbers) {
            told.add(x.count(6));
            told.add(x.check(30));
        } else {
            x.check(30);
        }
        if (!withTape) {
            x.trim(0);
        }
        told.add(x.count(7));
        town(x, told);
        slots(x, told);
        sheets(x, told);
        told.add(x.text());
        told.add(x.fee());
        told.add(x.back());
        town(x, told);
        return told;
    }

    private static void town(RegretLocks x, List<Integer> told) {
        int people = x.count(0);
        int locks = x.count(2);
        int texts = x.count(5);
        for (int what : new int[] {0, 1, 2, 3, 4, 5, 8}) {
            told.add(x.count(what));
        }
        for (int what = 0; what < 5; what++) {
            told.add(x.town(what));
        }
        for (int one = 0; one < people; one++) {
            for (int what = 0; what < 5; what++) {
                told.add(x.told(one, what));
            }
        }
        for (int lock = 0; lock < locks; lock++) {
            for (int what = 0; what < 5; what++) {
                told.add(x.about(lock, what));
            }
        }
        for (int text = 0; text < texts; text++) {
            told.add(x.textTold(text, 0));
            told.add(x.textTold(text, 1));
        }
        for (int key = 0; key < 3; key++) {
            told.add(x.why(key));
        }
        told.add(x.fee());
        told.add(x.fine(0));
        told.add(x.behind(40, 0));
    }

    private static void slots(RegretLocks x, List<Integer> told) {
        for (int slot = 0; slot < 5; slot++) {
            int one = x.ask(slot, 0);
            int number = x.rest(slot, Integer.MAX_VALUE);
            told.add(one);
            told.add(number);
            if (one == KIND && number == KIND) {
                row(x, slot, told);
            }
        }
    }

    private static void sheets(RegretLocks x, List<Integer> told) {
        for (int sheet = 0; sheet < 4; sheet++) {
            boolean missing = x.lay(0, 2, sheet) == NOTHING;
            told.add(missing ? NOTHING : 0);
            if (!missing) {
                row(x, 0, told);
                // shorts have no place for it, floats do
                told.add(x.mark(sheet, 0, RegretLocks.NONE));
            }
        }
    }

    private static void row(RegretLocks x, int slot, List<Integer> told) {
        int item = 0;
        for (int place = 0; place <= 24 && item != INDEX; place++) {
            item = x.item(slot, place);
            told.add(item);
        }
    }
}
