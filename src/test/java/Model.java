import java.util.ArrayDeque;
import java.util.ArrayList;
import java.util.Arrays;
import java.util.HashSet;
import java.util.List;
import java.util.Set;
import java.util.function.IntUnaryOperator;

/**
 * The document once more, as slow and as literal as can be, for ModelTest to compare with. It shares no
 * code with the class, and goes other ways where it can: kinds are classes, ways are sought over whole
 * states, texts are trees, what is thought is lived by a copy.
 */
public final class Model {
    static final int BAD = -1000000001, NO = -1000000002, FULL = -1000000003, NONE = -1000000005;
    static final int NOTHING = -1000000011, KIND = -1000000012, INDEX = -1000000013, SIZE = -1000000014;

    // ---- kinds, as classes under one another

    static class One {
        int room;
        int[] regrets = new int[3];

        int feels(int r) {
            return r;
        }

        int wears(int plain) {
            return plain;
        }

        int worth() {
            return all();
        }

        int all() {
            return Arrays.stream(regrets).sum();
        }
    }

    static class Guilty extends One {
        @Override int feels(int r) {
            return super.feels(r) + 9;
        }

        @Override int wears(int plain) {
            return super.wears(plain) / 2;
        }

        @Override int worth() {
            return super.worth() + 4;
        }
    }

    static class General extends Guilty {
        @Override int feels(int r) {
            return 2 * super.feels(r);
        }

        @Override int worth() {
            return 2 * super.worth();
        }
    }

    static class Happy extends One {
        @Override int feels(int r) {
            return super.feels(r) / 2;
        }

        @Override int wears(int plain) {
            return 2 * super.wears(plain);
        }

        @Override int worth() {
            return 300 - super.worth();
        }
    }

    static class Child extends Happy {
        @Override int feels(int r) {
            return super.feels(r) + 3;
        }

        @Override int wears(int plain) {
            return super.wears(plain) + 1;
        }

        @Override int worth() {
            return super.worth() - 5;
        }
    }

    static class False extends One {
        @Override int feels(int r) {
            return 0;
        }

        @Override int worth() {
            return 6;
        }
    }

    static final Class<?>[] CLASSES = {One.class, Guilty.class, Happy.class, General.class, Child.class, False.class};

    static One make(int kind, int room, int... regrets) {
        One one = switch (kind) {
            case 0 -> new One();
            case 1 -> new Guilty();
            case 2 -> new Happy();
            case 3 -> new General();
            case 4 -> new Child();
            default -> new False();
        };
        one.room = room;
        one.regrets = regrets.clone();
        return one;
    }

    static int kindOf(One one) {
        return Arrays.asList(CLASSES).indexOf(one.getClass());
    }

    static One twin(One one) {
        return make(kindOf(one), one.room, one.regrets);
    }

    // ---- the town

    static final class World {
        List<One> people = new ArrayList<>();
        List<int[]> locks = new ArrayList<>(); // from, to, sort, set, jammed
        List<Law> texts = new ArrayList<>();
        int[] chances = {30, 10};
        int entries, shut, jams, day, z = 1;

        World twin() {
            World w = new World();
            people.forEach(p -> w.people.add(Model.twin(p)));
            locks.forEach(l -> w.locks.add(l.clone()));
            w.texts.addAll(texts);
            w.chances = chances.clone();
            w.entries = entries;
            w.shut = shut;
            w.jams = jams;
            w.day = day;
            w.z = z;
            return w;
        }

        int rest(int n) {
            z = z * 1103515245 + 12345;
            return (z >>> 8) % n;
        }

        Law law(int key) {
            Law law = null;
            for (Law t : texts) {
                if (t.key == key) {
                    law = t;
                }
            }
            return law;
        }

        int worn(One one, int sort, int regret) {
            Law law = law(0);
            int plain = 2;
            if (law != null) {
                plain = law.give(regret, sort, day);
                plain = plain < 0 ? 0 : plain > 99 ? 99 : plain;
            }
            int left = regret - one.wears(plain);
            return left < 0 ? 0 : left;
        }

        boolean opens(int[] l, One one, int regret) {
            return l[4] == 0 && one.feels(regret) >= l[3];
        }

        void through(One one, int[] l) {
            one.regrets[l[2]] = worn(one, l[2], one.regrets[l[2]]);
            one.room = l[1];
            entries++;
        }

        void live() {
            for (One one : people) {
                if (one instanceof False) {
                    int[] first = locks.stream().filter(l -> l[0] == one.room && l[4] == 0).findFirst().orElse(null);
                    if (first != null && rest(100) < 30) {
                        first[4] = 1;
                        jams++;
                    }
                }
                int[] open = locks.stream().filter(l -> l[0] == one.room && opens(l, one, one.regrets[l[2]]))
                    .findFirst().orElse(null);
                if (open != null) {
                    through(one, open);
                } else {
                    shut++;
                    one.regrets[day % 3] = Math.min(99, one.regrets[day % 3] + 1);
                }
            }
            if (rest(100) < chances[0] && !people.isEmpty()) {
                One who = people.get(rest(people.size()));
                int sort = rest(3);
                who.regrets[sort] = Math.min(99, who.regrets[sort] + 10);
            }
            if (rest(100) < chances[1] && !people.isEmpty()) {
                One who = people.get(rest(people.size()));
                who.regrets = Arrays.stream(who.regrets).map(r -> r / 2).toArray();
            }
            if (day % 5 == 4) {
                locks.forEach(l -> l[4] = 0);
            }
            day++;
        }

        int all() {
            return people.stream().mapToInt(One::all).sum();
        }

        /** Of each room the fewest latches, or NONE. */
        int[] ways(One start) {
            int[] fewest = new int[8];
            Arrays.fill(fewest, NONE);
            Set<List<Integer>> level = new HashSet<>();
            level.add(List.of(start.room, start.regrets[0], start.regrets[1], start.regrets[2]));
            for (int n = 0; n <= 8; n++) {
                Set<List<Integer>> next = new HashSet<>();
                for (List<Integer> state : level) {
                    if (fewest[state.get(0)] == NONE) {
                        fewest[state.get(0)] = n;
                    }
                    for (int[] l : locks) {
                        int regret = state.get(1 + l[2]);
                        if (l[0] == state.get(0) && opens(l, start, regret)) {
                            List<Integer> then = new ArrayList<>(state);
                            then.set(0, l[1]);
                            then.set(1 + l[2], worn(start, l[2], regret));
                            next.add(then);
                        }
                    }
                }
                level = next;
            }
            return fewest;
        }
    }

    // ---- laws

    interface Node {
        int give(IntUnaryOperator names);
    }

    static final class Law {
        int key;
        int pieces;
        Node root;

        int give(int... values) {
            return root.give(i -> values[i]);
        }
    }

    static final class Fault extends Exception {
        private static final long serialVersionUID = 1;
        final int place;

        Fault(int place) {
            super("fault", null, false, false);
            this.place = place;
        }
    }

    record Token(String word, int place, boolean glued) {
    }

    static final class Reading {
        final ArrayDeque<Token> tokens = new ArrayDeque<>();
        final Law law = new Law();
        String names;

        Reading(String tape) {
            int at = 0;
            boolean wordEnds = false;
            while (at < tape.length()) {
                int to = at;
                while (to < tape.length() && "abcdefghijklmnopqrstuvwxyz".indexOf(tape.charAt(to)) >= 0) {
                    to++;
                }
                if (to == at) {
                    while (to < tape.length() && "0123456789".indexOf(tape.charAt(to)) >= 0) {
                        to++;
                    }
                }
                boolean isWord = to > at;
                to = isWord ? to : at + 1;
                if (tape.charAt(at) != ' ') {
                    tokens.add(new Token(tape.substring(at, to), at, isWord && wordEnds));
                }
                wordEnds = isWord;
                at = to;
            }
            tokens.add(new Token("", tape.length(), false));
        }

        boolean sees(String signs) {
            Token t = tokens.peek();
            return t.word.length() == 1 && signs.contains(t.word);
        }

        Law read() throws Fault {
            Token t = tokens.poll();
            law.key = List.of("wear", "fee", "fine").indexOf(t.word);
            if (law.key < 0) {
                throw new Fault(t.place);
            }
            names = List.of("rst", "eh", "ro").get(law.key);
            law.root = or(0, 0);
            if (!tokens.peek().word.isEmpty()) {
                throw new Fault(tokens.peek().place);
            }
            return law;
        }

        Node or(int brackets, int nots) throws Fault {
            Node left = and(brackets, nots);
            while (sees("|")) {
                tokens.poll();
                Node a = left;
                Node b = and(brackets, nots);
                left = n -> (a.give(n) != 0) | (b.give(n) != 0) ? 1 : 0;
            }
            return left;
        }

        Node and(int brackets, int nots) throws Fault {
            Node left = test(brackets, nots);
            while (sees("&")) {
                tokens.poll();
                Node a = left;
                Node b = test(brackets, nots);
                left = n -> (a.give(n) != 0) & (b.give(n) != 0) ? 1 : 0;
            }
            return left;
        }

        Node test(int brackets, int nots) throws Fault {
            Node a = sum(brackets, nots);
            if (!sees("<=>")) {
                return a;
            }
            char sign = tokens.poll().word.charAt(0);
            Node b = sum(brackets, nots);
            return n -> {
                int order = Integer.compare(a.give(n), b.give(n));
                return order == (sign == '<' ? -1 : sign == '=' ? 0 : 1) ? 1 : 0;
            };
        }

        Node sum(int brackets, int nots) throws Fault {
            Node left = term(brackets, nots);
            while (sees("+-")) {
                int by = tokens.poll().word.equals("+") ? 1 : -1;
                Node a = left;
                Node b = term(brackets, nots);
                left = n -> a.give(n) + by * b.give(n);
            }
            return left;
        }

        Node term(int brackets, int nots) throws Fault {
            Node left = piece(brackets, nots);
            while (sees("*/")) {
                boolean times = tokens.poll().word.equals("*");
                Node a = left;
                Node b = piece(brackets, nots);
                left = n -> {
                    long x = a.give(n);
                    long y = b.give(n);
                    return (int) (times ? x * y : y == 0 ? 0 : x / y);
                };
            }
            return left;
        }

        Node piece(int brackets, int nots) throws Fault {
            Token t = tokens.peek();
            if (t.glued || t.word.isEmpty()) {
                throw new Fault(t.place);
            }
            tokens.poll();
            if (t.word.equals("!") && nots < 8) {
                Node a = piece(brackets, nots + 1);
                return n -> a.give(n) == 0 ? 1 : 0;
            }
            if (t.word.equals("(") && brackets < 8) {
                Node a = or(brackets + 1, nots);
                if (!sees(")")) {
                    throw new Fault(tokens.peek().place);
                }
                tokens.poll();
                return a;
            }
            law.pieces++;
            if (t.word.matches("[0-9]{1,4}")) {
                int v = Integer.parseInt(t.word);
                return n -> v;
            }
            if (t.word.length() == 1 && names.contains(t.word)) {
                int i = names.indexOf(t.word);
                return n -> n.applyAsInt(i);
            }
            throw new Fault(t.place);
        }
    }

    // ---- the calls

    World now = new World();
    World image;
    String tape = "";
    Float[][] floats = new Float[4][]; // null: no number
    short[][] shorts = new short[4][];
    Object[] slots = new Object[5];
    List<Integer> waiting = new ArrayList<>();

    static boolean in(int v, int from, int to) {
        return from <= v && v <= to;
    }

    boolean isOne(int one) {
        return in(one, 0, now.people.size() - 1);
    }

    boolean isLock(int lock) {
        return in(lock, 0, now.locks.size() - 1);
    }

    public int one(int kind, int room, int a, int b, int c) {
        if (!in(kind, 0, 5) || !in(room, 0, 7) || !in(a, 0, 99) || !in(b, 0, 99) || !in(c, 0, 99)) {
            return BAD;
        }
        if (now.people.size() == 8) {
            return FULL;
        }
        now.people.add(make(kind, room, a, b, c));
        return now.people.size() - 1;
    }

    public int told(int one, int what) {
        if (!isOne(one) || !in(what, 0, 8)) {
            return BAD;
        }
        One p = now.people.get(one);
        return what == 0 ? kindOf(p) : what == 1 ? p.room : what < 5 ? p.regrets[what - 2]
            : what < 8 ? p.feels(p.regrets[what - 5]) : p.worth();
    }

    public int as(int one, int kind) {
        if (!isOne(one) || !in(kind, 0, 5)) {
            return BAD;
        }
        return CLASSES[kind].isInstance(now.people.get(one)) ? now.people.get(one).room : KIND;
    }

    public int turns(int one, int kind) {
        if (!isOne(one) || !in(kind, 0, 5)) {
            return BAD;
        }
        One was = now.people.get(one);
        now.people.set(one, make(kind, was.room, was.regrets));
        return kindOf(was);
    }

    public int set(int one, int what, int v) {
        if (!isOne(one) || !in(what, 1, 4) || !in(v, 0, what == 1 ? 7 : 99)) {
            return BAD;
        }
        int was = told(one, what);
        if (what == 1) {
            now.people.get(one).room = v;
        } else {
            now.people.get(one).regrets[what - 2] = v;
        }
        return was;
    }

    public int lock(int from, int to, int sort, int set) {
        if (!in(from, 0, 7) || !in(to, 0, 7) || !in(sort, 0, 2) || !in(set, 0, 99)) {
            return BAD;
        }
        if (now.locks.size() == 10) {
            return FULL;
        }
        now.locks.add(new int[] {from, to, sort, set, 0});
        return now.locks.size() - 1;
    }

    public int about(int lock, int what) {
        if (!isLock(lock) || !in(what, 0, 5)) {
            return BAD;
        }
        int[] l = now.locks.get(lock);
        if (what < 5) {
            return l[what];
        }
        int those = 0;
        for (int i = 0; i < now.people.size(); i++) {
            One p = now.people.get(i);
            those += now.opens(l, p, p.regrets[l[2]]) ? 1 << i : 0;
        }
        return those;
    }

    public int sets(int lock, int what, int v) {
        if (!isLock(lock) || !in(what, 0, 3) || !in(v, 0, new int[] {7, 7, 2, 99}[what])) {
            return BAD;
        }
        int was = now.locks.get(lock)[what];
        now.locks.get(lock)[what] = v;
        return was;
    }

    public int mends(int lock) {
        if (!isLock(lock)) {
            return BAD;
        }
        int was = now.locks.get(lock)[4];
        now.locks.get(lock)[4] = 0;
        return was == 1 ? 1 : NO;
    }

    public int rule(int what, int v) {
        if (!in(what, 0, 1) || !in(v, 0, 100)) {
            return BAD;
        }
        int was = now.chances[what];
        now.chances[what] = v;
        return was;
    }

    public int at(int room) {
        if (!in(room, 0, 7)) {
            return BAD;
        }
        int those = 0;
        for (One p : now.people) {
            those += p.room == room ? 1 << now.people.indexOf(p) : 0;
        }
        return those;
    }

    public int deal(int n) {
        if (!in(n, 1, 8)) {
            return BAD;
        }
        int came = 0;
        while (came < n && now.people.size() < 8) {
            int[] drawn = {now.rest(6), now.rest(8), now.rest(60), now.rest(60), now.rest(60)};
            now.people.add(make(drawn[0], drawn[1], drawn[2], drawn[3], drawn[4]));
            came++;
        }
        return came;
    }

    public int seed(int v) {
        int was = now.z;
        now.z = v;
        return was;
    }

    public int passes(int one, int lock) {
        if (!isOne(one) || !isLock(lock)) {
            return BAD;
        }
        One p = now.people.get(one);
        int[] l = now.locks.get(lock);
        if (p.room != l[0] || !now.opens(l, p, p.regrets[l[2]])) {
            return NO;
        }
        now.through(p, l);
        return p.room;
    }

    public int days(int n) {
        if (!in(n, 1, 100)) {
            return BAD;
        }
        int was = now.entries;
        for (int i = 0; i < n && now.day < 9999; i++) {
            now.live();
        }
        return now.entries - was;
    }

    public int town(int what) {
        if (!in(what, 0, 4)) {
            return BAD;
        }
        int jammed = 0;
        for (int i = 0; i < now.locks.size(); i++) {
            jammed += now.locks.get(i)[4] << i;
        }
        return new int[] {now.entries, now.shut, now.jams, now.all(), jammed}[what];
    }

    static int set(int[] fewest) {
        int those = 0;
        for (int i = 0; i < 8; i++) {
            those += fewest[i] == NONE ? 0 : 1 << i;
        }
        return those;
    }

    public int reach(int one) {
        return isOne(one) ? set(now.ways(now.people.get(one))) : BAD;
    }

    public int way(int one, int room) {
        return isOne(one) && in(room, 0, 7) ? now.ways(now.people.get(one))[room] : BAD;
    }

    public int pardoned(int one) {
        if (!isOne(one)) {
            return BAD;
        }
        One half = twin(now.people.get(one));
        half.regrets = Arrays.stream(half.regrets).map(r -> r / 2).toArray();
        return set(now.ways(half));
    }

    public int just(int lock, int people) {
        if (!isLock(lock) || !in(people, 0, (1 << now.people.size()) - 1)) {
            return BAD;
        }
        int[] l = now.locks.get(lock).clone();
        l[4] = 0;
        for (l[3] = 0; l[3] < 100; l[3]++) {
            boolean just = true;
            for (int i = 0; i < now.people.size(); i++) {
                One p = now.people.get(i);
                just &= now.opens(l, p, p.regrets[l[2]]) == ((people >> i) % 2 == 1);
            }
            if (just) {
                return l[3];
            }
        }
        return NONE;
    }

    public int sorry(int one, int lock) {
        if (!isOne(one) || !isLock(lock)) {
            return BAD;
        }
        One p = now.people.get(one);
        int[] l = now.locks.get(lock);
        int more = 0;
        while (p.regrets[l[2]] + more <= 99) {
            if (p.feels(p.regrets[l[2]] + more) >= l[3]) {
                return more;
            }
            more++;
        }
        return NONE;
    }

    static World lived(World world, int n) {
        World w = world.twin();
        for (int i = 0; i < n; i++) {
            w.live();
        }
        return w;
    }

    public int behind(int n, int what) {
        if (!in(n, 0, 100) || !in(what, 0, 2 + now.people.size())) {
            return BAD;
        }
        World w = lived(now, n);
        return what == 0 ? w.entries : what == 1 ? w.shut : what == 2 ? w.jams : w.people.get(what - 3).room;
    }

    public int enters(int one, int room) {
        if (!isOne(one) || !in(room, 0, 7)) {
            return BAD;
        }
        World w = now.twin();
        for (int n = 0; n <= 200; n++) {
            if (w.people.get(one).room == room) {
                return n;
            }
            w.live();
        }
        return NONE;
    }

    public int freed(int n, int what) {
        if (!in(n, 1, 60) || !in(what, 0, 1)) {
            return BAD;
        }
        int[] best = {NONE, -1};
        for (int i = 0; i < now.locks.size(); i++) {
            World w = now.twin();
            w.locks.get(i)[3] = 0;
            int e = lived(w, n).entries;
            best = e > best[1] ? new int[] {i, e} : best;
        }
        return best[0] == NONE ? NONE : best[what];
    }

    public int becomes(int one, int n, int what) {
        if (!isOne(one) || !in(n, 1, 60) || !in(what, 0, 1)) {
            return BAD;
        }
        int[] best = {NONE, -1};
        for (int kind = 0; kind < 6; kind++) {
            World w = now.twin();
            w.people.set(one, make(kind, w.people.get(one).room, w.people.get(one).regrets));
            int e = lived(w, n).entries;
            best = e > best[1] ? new int[] {kind, e} : best;
        }
        return best[what];
    }

    boolean missing(int sheet) {
        return floats[sheet] == null && shorts[sheet] == null;
    }

    int places(int sheet) {
        return shorts[sheet] != null ? shorts[sheet].length : floats[sheet].length;
    }

    /** The number at a place, or null. */
    Integer number(int sheet, int place) {
        if (shorts[sheet] != null) {
            return (int) shorts[sheet][place];
        }
        return floats[sheet][place] == null ? null : Integer.valueOf(floats[sheet][place].intValue());
    }

    public int like(int sheet, int what) {
        if (!in(sheet, 0, 3) || !in(what, 0, 1)) {
            return BAD;
        }
        if (missing(sheet)) {
            return NOTHING;
        }
        int[] best = {NONE, -1};
        for (int i = 0; i < now.people.size(); i++) {
            int hits = 0;
            for (int k = 0; k < places(sheet); k++) {
                Integer v = number(sheet, k);
                hits += v != null && lived(now, k).people.get(i).room == v ? 1 : 0;
            }
            best = hits > best[1] ? new int[] {i, hits} : best;
        }
        return best[0] == NONE ? NONE : best[what];
    }

    public int fee() {
        return now.law(1) == null ? now.entries : now.law(1).give(now.entries, now.shut);
    }

    public int fine(int one) {
        if (!isOne(one)) {
            return BAD;
        }
        One p = now.people.get(one);
        return now.law(2) == null ? p.all() : now.law(2).give(p.all(), p.room);
    }

    public int feed(int a, int b, int c) {
        if (tape.length() > 84) {
            return FULL;
        }
        StringBuilder more = new StringBuilder(tape);
        for (byte at : java.nio.ByteBuffer.allocate(12).putInt(a).putInt(b).putInt(c).array()) {
            more.append((char) (at & 255));
        }
        tape = more.toString();
        return tape.length();
    }

    public int trim(int n) {
        if (!in(n, 0, tape.length())) {
            return BAD;
        }
        tape = tape.substring(0, n);
        return n;
    }

    public int text() {
        String was = tape;
        tape = "";
        try {
            Law law = new Reading(was).read();
            if (now.texts.size() == 14) {
                return FULL;
            }
            now.texts.add(law);
            return now.texts.size() - 1;
        } catch (Fault fault) {
            return -100 - fault.place;
        }
    }

    public int textTold(int text, int what) {
        if (!in(text, 0, now.texts.size() - 1) || !in(what, 0, 1)) {
            return BAD;
        }
        return what == 0 ? now.texts.get(text).key : now.texts.get(text).pieces;
    }

    public int why(int key) {
        return !in(key, 0, 2) ? BAD : now.law(key) == null ? NONE : now.texts.indexOf(now.law(key));
    }

    public int sheet(int sheet, int sort, int n) {
        if (!in(sheet, 0, 3) || !in(sort, -1, 1) || sort >= 0 && n > 24) {
            return BAD;
        }
        if (sort >= 0 && n < 0) {
            return SIZE;
        }
        floats[sheet] = null;
        shorts[sheet] = null;
        if (sort == 0) {
            shorts[sheet] = new short[n];
        } else if (sort == 1) {
            floats[sheet] = new Float[n];
            Arrays.fill(floats[sheet], 0f);
        }
        return sort < 0 ? 0 : n;
    }

    public int mark(int sheet, int place, int v) {
        if (!in(sheet, 0, 3)) {
            return BAD;
        }
        if (missing(sheet)) {
            return NOTHING;
        }
        if (!in(place, 0, places(sheet) - 1)) {
            return INDEX;
        }
        if (shorts[sheet] != null) {
            if (v == NONE) {
                return KIND;
            }
            shorts[sheet][place] = (short) v;
        } else {
            if (v != NONE && !in(v, -99999, 99999)) {
                return BAD;
            }
            floats[sheet][place] = v == NONE ? null : Float.valueOf(v);
        }
        return 1;
    }

    public int pour(int sheet) {
        if (!in(sheet, 0, 3)) {
            return BAD;
        }
        if (missing(sheet)) {
            return NOTHING;
        }
        int otherwise = 0;
        for (int i = 0; i < now.people.size() && i < places(sheet); i++) {
            Integer v = number(sheet, i);
            if (v != null) {
                int held = v < 0 ? 0 : v > 99 ? 99 : v;
                otherwise += set(i, 2, held) == held ? 0 : 1;
            }
        }
        return otherwise;
    }

    public int reads(int sheet) {
        if (!in(sheet, 0, 3)) {
            return BAD;
        }
        if (missing(sheet)) {
            return NOTHING;
        }
        for (int i = 0; i < places(sheet); i++) {
            Integer v = number(sheet, i);
            if (v != null && !(isOne(i) && v == now.people.get(i).room)) {
                return i;
            }
        }
        return NONE;
    }

    public int copy(int from, int place, int to, int at, int many) {
        if (!in(from, 0, 3) || !in(to, 0, 3)) {
            return BAD;
        }
        if (missing(from) || missing(to)) {
            return NOTHING;
        }
        Object source = shorts[from] != null ? shorts[from] : floats[from];
        Object goal = shorts[to] != null ? shorts[to] : floats[to];
        try {
            System.arraycopy(source, place, goal, at, many);
            return many;
        } catch (ArrayStoreException e) {
            return KIND;
        } catch (IndexOutOfBoundsException e) {
            return INDEX;
        }
    }

    static int thing(Object held) {
        return held == null ? 0 : held instanceof One ? 1 : held instanceof Integer ? 3 : 2;
    }

    public int lay(int slot, int thing, int k) {
        if (!in(slot, 0, 4) || !in(thing, 0, 3) || thing == 1 && !isOne(k) || thing == 2 && !in(k, 0, 3)) {
            return BAD;
        }
        if (thing == 2 && missing(k)) {
            return NOTHING;
        }
        int was = thing(slots[slot]);
        slots[slot] = thing == 0 ? null : thing == 1 ? twin(now.people.get(k)) : thing == 3 ? Integer.valueOf(k)
            : shorts[k] != null ? shorts[k].clone() : floats[k].clone();
        return was;
    }

    public int ask(int slot, int kind) {
        if (!in(slot, 0, 4) || !in(kind, 0, 5)) {
            return BAD;
        }
        if (slots[slot] == null) {
            return NOTHING;
        }
        return CLASSES[kind].isInstance(slots[slot]) ? ((One) slots[slot]).worth() : KIND;
    }

    public int item(int slot, int place) {
        if (!in(slot, 0, 4)) {
            return BAD;
        }
        if (slots[slot] == null) {
            return NOTHING;
        }
        if (slots[slot] instanceof short[] row) {
            return in(place, 0, row.length - 1) ? row[place] : INDEX;
        }
        if (slots[slot] instanceof Float[] row) {
            return !in(place, 0, row.length - 1) ? INDEX : row[place] == null ? KIND : row[place].intValue();
        }
        return KIND;
    }

    public int rest(int slot, int n) {
        if (!in(slot, 0, 4)) {
            return BAD;
        }
        if (slots[slot] == null) {
            return NOTHING;
        }
        if (slots[slot] instanceof Integer v) {
            return n == 0 ? NO : (int) ((long) v % n);
        }
        return KIND;
    }

    public int tell(int v) {
        if (waiting.size() == 60) {
            return FULL;
        }
        waiting.add(v);
        return waiting.size();
    }

    /** The days told by a world. */
    static List<Integer> rows(World world, int n) {
        List<Integer> rows = new ArrayList<>();
        for (int i = 1; i <= n && world.day + i <= 9999; i++) {
            World w = lived(world, i);
            rows.add(w.entries);
            rows.add(w.all());
        }
        return rows;
    }

    public int check(int n) {
        List<Integer> had = waiting;
        waiting = new ArrayList<>();
        if (!in(n, 1, 30)) {
            return BAD;
        }
        if (image == null) {
            return NO;
        }
        List<Integer> want = rows(image, n);
        if (had.equals(want)) {
            return 0;
        }
        int same = 0;
        while (same < had.size() && same < want.size() && had.get(same).equals(want.get(same))) {
            same++;
        }
        return 1 + same;
    }

    public int keep() {
        image = now.twin();
        return image.people.size();
    }

    public int back() {
        if (image == null) {
            return NO;
        }
        now = image.twin();
        return now.people.size();
    }

    public int count(int what) {
        if (!in(what, 0, 8)) {
            return BAD;
        }
        return new int[] {now.people.size(), now.day, now.locks.size(), now.chances[0], now.chances[1], now.texts.size(),
            waiting.size(), tape.length(), now.z}[what];
    }
}
