import java.util.Arrays;

/** Locks that open by regret, the people before them, and what their days will bring. */
public final class RegretLocks {
    public static final int BAD = -1000000001, NO = -1000000002, FULL = -1000000003, NONE = -1000000005;
    public static final int NOTHING = -1000000011, KIND = -1000000012, INDEX = -1000000013, SIZE = -1000000014;

    private static final int ROOMS = 8, SORTS = 3, MOST_PEOPLE = 8, MOST_LOCKS = 10, MOST_TEXTS = 14;
    private static final int MOST_REGRET = 99, MOST_SET = 99, MOST_CHANCE = 100, LAST_DAY = 9999;
    private static final int SHEETS = 4, MOST_PLACES = 24, SLOTS = 5, MOST_WAITING = 60, MOST_BYTES = 96;
    private static final int MOST_LATCHES = 8, MOST_FLOAT = 99999;
    private static final int WEAR = 0, FEE = 1, FINE = 2, KEYS = 3;

    private final Town now = new Town();
    private final Town image = new Town();
    /** Lives the days that are only thought, so that what is now stays as it is. */
    private final Town thought = new Town();
    private boolean kept;
    private final Ways ways = new Ways();
    private final Parser parser = new Parser();
    private final byte[] tape = new byte[MOST_BYTES];
    private int tapeLength;
    private final Sheet[] sheets = new Sheet[SHEETS];
    private final Slot[] slots = new Slot[SLOTS];
    private final int[] waiting = new int[MOST_WAITING];
    private int waits;
    private final int[] hits = new int[MOST_PEOPLE];

    public RegretLocks() {
        for (int i = 0; i < SHEETS; i++) {
            sheets[i] = new Sheet();
        }
        for (int i = 0; i < SLOTS; i++) {
            slots[i] = new Slot();
        }
    }

    // ---- people, locks

    public int one(int kind, int room, int a, int b, int c) {
        if (!isKind(kind) || !isRoom(room) || !isRegret(a) || !isRegret(b) || !isRegret(c)) {
            return BAD;
        }
        if (now.peopleCount >= MOST_PEOPLE) {
            return FULL;
        }
        now.people[now.peopleCount].become(kind, room, a, b, c);
        return now.peopleCount++;
    }

    public int told(int one, int what) {
        if (!isOne(one)) {
            return BAD;
        }
        Person person = now.people[one];
        switch (what) {
            case 0: return person.kind;
            case 1: return person.room;
            case 2: case 3: case 4: return person.regrets[what - 2];
            case 5: case 6: case 7: return person.feelsOf(what - 5);
            case 8: return person.worth();
            default: return BAD;
        }
    }

    public int as(int one, int kind) {
        if (!isOne(one) || !isKind(kind)) {
            return BAD;
        }
        Person person = now.people[one];
        return Kinds.isOf(person.kind, kind) ? person.room : KIND;
    }

    public int turns(int one, int kind) {
        if (!isOne(one) || !isKind(kind)) {
            return BAD;
        }
        int was = now.people[one].kind;
        now.people[one].kind = kind;
        return was;
    }

    public int set(int one, int what, int v) {
        if (!isOne(one) || what < 1 || what > 4) {
            return BAD;
        }
        Person person = now.people[one];
        if (what == 1) {
            if (!isRoom(v)) {
                return BAD;
            }
            int was = person.room;
            person.room = v;
            return was;
        }
        if (!isRegret(v)) {
            return BAD;
        }
        int was = person.regrets[what - 2];
        person.regrets[what - 2] = v;
        return was;
    }

    public int lock(int from, int to, int sort, int set) {
        if (!isRoom(from) || !isRoom(to) || !isSort(sort) || !isSet(set)) {
            return BAD;
        }
        if (now.lockCount >= MOST_LOCKS) {
            return FULL;
        }
        now.locks[now.lockCount].become(from, to, sort, set);
        return now.lockCount++;
    }

    public int about(int lock, int what) {
        if (!isLock(lock)) {
            return BAD;
        }
        Lock one = now.locks[lock];
        switch (what) {
            case 0: return one.from;
            case 1: return one.to;
            case 2: return one.sort;
            case 3: return one.set;
            case 4: return one.jammed ? 1 : 0;
            case 5: return now.thoseWhoOpen(one);
            default: return BAD;
        }
    }

    public int sets(int lock, int what, int v) {
        if (!isLock(lock) || !fitsLock(what, v)) {
            return BAD;
        }
        Lock one = now.locks[lock];
        int was;
        switch (what) {
            case 0: was = one.from; one.from = v; return was;
            case 1: was = one.to; one.to = v; return was;
            case 2: was = one.sort; one.sort = v; return was;
            default: was = one.set; one.set = v; return was;
        }
    }

    public int mends(int lock) {
        if (!isLock(lock)) {
            return BAD;
        }
        if (!now.locks[lock].jammed) {
            return NO;
        }
        now.locks[lock].jammed = false;
        return 1;
    }

    public int rule(int what, int v) {
        if (what < 0 || what > 1 || v < 0 || v > MOST_CHANCE) {
            return BAD;
        }
        int was = what == 0 ? now.deeds : now.pardons;
        if (what == 0) {
            now.deeds = v;
        } else {
            now.pardons = v;
        }
        return was;
    }

    public int at(int room) {
        if (!isRoom(room)) {
            return BAD;
        }
        int those = 0;
        for (int i = 0; i < now.peopleCount; i++) {
            if (now.people[i].room == room) {
                those |= 1 << i;
            }
        }
        return those;
    }

    public int deal(int n) {
        if (n < 1 || n > MOST_PEOPLE) {
            return BAD;
        }
        int came = Math.min(n, MOST_PEOPLE - now.peopleCount);
        for (int i = 0; i < came; i++) {
            now.drawPerson();
        }
        return came;
    }

    public int seed(int v) {
        int was = now.z;
        now.z = v;
        return was;
    }

    // ---- days

    public int passes(int one, int lock) {
        if (!isOne(one) || !isLock(lock)) {
            return BAD;
        }
        Person person = now.people[one];
        Lock through = now.locks[lock];
        if (person.room != through.from || !through.opensFor(person)) {
            return NO;
        }
        now.goThrough(person, through);
        return person.room;
    }

    public int days(int n) {
        if (n < 1 || n > 100) {
            return BAD;
        }
        int before = now.entries;
        int many = Math.min(n, LAST_DAY - now.day);
        for (int i = 0; i < many; i++) {
            now.liveDay();
        }
        return now.entries - before;
    }

    public int town(int what) {
        switch (what) {
            case 0: return now.entries;
            case 1: return now.shut;
            case 2: return now.jams;
            case 3: return now.allRegrets();
            case 4: return now.jammedLocks();
            default: return BAD;
        }
    }

    // ---- ways

    public int reach(int one) {
        if (!isOne(one)) {
            return BAD;
        }
        ways.find(now, now.people[one], false);
        return ways.reached();
    }

    public int way(int one, int room) {
        if (!isOne(one) || !isRoom(room)) {
            return BAD;
        }
        ways.find(now, now.people[one], false);
        return ways.fewest[room];
    }

    public int pardoned(int one) {
        if (!isOne(one)) {
            return BAD;
        }
        ways.find(now, now.people[one], true);
        return ways.reached();
    }

    public int just(int lock, int people) {
        if (!isLock(lock) || people < 0 || people >= 1 << now.peopleCount) {
            return BAD;
        }
        int sort = now.locks[lock].sort;
        for (int set = 0; set <= MOST_SET; set++) {
            if (now.thoseWhoFeel(sort, set) == people) {
                return set;
            }
        }
        return NONE;
    }

    public int sorry(int one, int lock) {
        if (!isOne(one) || !isLock(lock)) {
            return BAD;
        }
        Person person = now.people[one];
        Lock before = now.locks[lock];
        int regret = person.regrets[before.sort];
        for (int more = 0; regret + more <= MOST_REGRET; more++) {
            if (Kinds.feels(person.kind, regret + more) >= before.set) {
                return more;
            }
        }
        return NONE;
    }

    // ---- what will be

    public int behind(int n, int what) {
        if (n < 0 || n > 100 || what < 0 || what >= 3 + now.peopleCount) {
            return BAD;
        }
        thought.becomeAs(now);
        for (int i = 0; i < n; i++) {
            thought.liveDay();
        }
        switch (what) {
            case 0: return thought.entries;
            case 1: return thought.shut;
            case 2: return thought.jams;
            default: return thought.people[what - 3].room;
        }
    }

    public int enters(int one, int room) {
        if (!isOne(one) || !isRoom(room)) {
            return BAD;
        }
        thought.becomeAs(now);
        for (int behind = 0; behind <= 200; behind++) {
            if (thought.people[one].room == room) {
                return behind;
            }
            thought.liveDay();
        }
        return NONE;
    }

    public int freed(int n, int what) {
        if (n < 1 || n > 60 || what < 0 || what > 1) {
            return BAD;
        }
        if (now.lockCount == 0) {
            return NONE;
        }
        int best = 0;
        int most = -1;
        for (int i = 0; i < now.lockCount; i++) {
            thought.becomeAs(now);
            thought.locks[i].set = 0;
            int entries = entriesThought(n);
            if (entries > most) {
                best = i;
                most = entries;
            }
        }
        return what == 0 ? best : most;
    }

    public int becomes(int one, int n, int what) {
        if (!isOne(one) || n < 1 || n > 60 || what < 0 || what > 1) {
            return BAD;
        }
        int best = 0;
        int most = -1;
        for (int kind = 0; kind < Kinds.MANY; kind++) {
            thought.becomeAs(now);
            thought.people[one].kind = kind;
            int entries = entriesThought(n);
            if (entries > most) {
                best = kind;
                most = entries;
            }
        }
        return what == 0 ? best : most;
    }

    public int like(int sheet, int what) {
        if (!isSheet(sheet) || what < 0 || what > 1) {
            return BAD;
        }
        if (sheets[sheet].isMissing()) {
            return NOTHING;
        }
        if (now.peopleCount == 0) {
            return NONE;
        }
        countHits(sheets[sheet]);
        int best = 0;
        for (int i = 1; i < now.peopleCount; i++) {
            if (hits[i] > hits[best]) {
                best = i;
            }
        }
        return what == 0 ? best : hits[best];
    }

    public int fee() {
        Text law = now.laws[FEE];
        return law == null ? now.entries : law.value(now.entries, now.shut, 0);
    }

    public int fine(int one) {
        if (!isOne(one)) {
            return BAD;
        }
        Person person = now.people[one];
        Text law = now.laws[FINE];
        return law == null ? person.allRegrets() : law.value(person.allRegrets(), person.room, 0);
    }

    // ---- texts

    public int feed(int a, int b, int c) {
        if (tapeLength + 12 > MOST_BYTES) {
            return FULL;
        }
        feedFour(a);
        feedFour(b);
        feedFour(c);
        return tapeLength;
    }

    public int trim(int n) {
        if (n < 0 || n > tapeLength) {
            return BAD;
        }
        tapeLength = n;
        return n;
    }

    public int text() {
        int fault = parser.findFault(tape, tapeLength);
        tapeLength = 0;
        if (fault != Parser.SOUND) {
            return -100 - fault;
        }
        if (now.textCount >= MOST_TEXTS) {
            return FULL;
        }
        Text text = parser.makeText(now.textCount);
        now.texts[now.textCount] = text;
        now.laws[text.key] = text;
        return now.textCount++;
    }

    public int textTold(int text, int what) {
        if (text < 0 || text >= now.textCount || what < 0 || what > 1) {
            return BAD;
        }
        Text one = now.texts[text];
        if (one == null) {
            return BAD;
        }
        return what == 0 ? one.key : one.pieces;
    }

    public int why(int key) {
        if (key < 0 || key >= KEYS) {
            return BAD;
        }
        Text law = now.laws[key];
        return law == null ? NONE : law.number;
    }

    // ---- sheets, slots

    public int sheet(int sheet, int sort, int n) {
        if (!isSheet(sheet) || sort < Sheet.MISSING || sort > Sheet.FLOATS) {
            return BAD;
        }
        if (sort == Sheet.MISSING) {
            sheets[sheet].become(Sheet.MISSING, 0);
            return 0;
        }
        if (n > MOST_PLACES) {
            return BAD;
        }
        if (n < 0) {
            return SIZE;
        }
        sheets[sheet].become(sort, n);
        return n;
    }

    public int mark(int sheet, int place, int v) {
        if (!isSheet(sheet)) {
            return BAD;
        }
        Sheet row = sheets[sheet];
        if (row.isMissing()) {
            return NOTHING;
        }
        if (!row.hasPlace(place)) {
            return INDEX;
        }
        if (row.sort == Sheet.SHORTS) {
            if (v == NONE) {
                return KIND;
            }
            row.places[place] = (short) v;
            return 1;
        }
        if (v != NONE && (v < -MOST_FLOAT || v > MOST_FLOAT)) {
            return BAD;
        }
        row.places[place] = v;
        return 1;
    }

    public int pour(int sheet) {
        if (!isSheet(sheet)) {
            return BAD;
        }
        Sheet row = sheets[sheet];
        if (row.isMissing()) {
            return NOTHING;
        }
        int otherwise = 0;
        int many = Math.min(now.peopleCount, row.length);
        for (int i = 0; i < many; i++) {
            if (row.isNumber(i)) {
                int regret = held(row.places[i], MOST_REGRET);
                if (now.people[i].regrets[0] != regret) {
                    now.people[i].regrets[0] = regret;
                    otherwise++;
                }
            }
        }
        return otherwise;
    }

    public int reads(int sheet) {
        if (!isSheet(sheet)) {
            return BAD;
        }
        Sheet row = sheets[sheet];
        if (row.isMissing()) {
            return NOTHING;
        }
        for (int i = 0; i < row.length; i++) {
            if (row.isNumber(i) && (i >= now.peopleCount || row.places[i] != now.people[i].room)) {
                return i;
            }
        }
        return NONE;
    }

    public int copy(int from, int place, int to, int at, int many) {
        if (!isSheet(from) || !isSheet(to)) {
            return BAD;
        }
        Sheet source = sheets[from];
        Sheet goal = sheets[to];
        if (source.isMissing() || goal.isMissing()) {
            return NOTHING;
        }
        if (source.sort != goal.sort) {
            return KIND;
        }
        if (!source.hasPlaces(place, many) || !goal.hasPlaces(at, many)) {
            return INDEX;
        }
        System.arraycopy(source.places, place, goal.places, at, many);
        return many;
    }

    public int lay(int slot, int thing, int k) {
        if (!isSlot(slot) || thing < Slot.EMPTY || thing > Slot.NUMBER) {
            return BAD;
        }
        if (thing == Slot.ONE && !isOne(k) || thing == Slot.SHEET && !isSheet(k)) {
            return BAD;
        }
        if (thing == Slot.SHEET && sheets[k].isMissing()) {
            return NOTHING;
        }
        Slot holder = slots[slot];
        int held = holder.thing;
        holder.thing = thing;
        if (thing == Slot.ONE) {
            holder.person.becomeAs(now.people[k]);
        } else if (thing == Slot.SHEET) {
            holder.sheet.becomeAs(sheets[k]);
        } else {
            holder.number = k;
        }
        return held;
    }

    public int ask(int slot, int kind) {
        if (!isSlot(slot) || !isKind(kind)) {
            return BAD;
        }
        Slot holder = slots[slot];
        if (holder.thing == Slot.EMPTY) {
            return NOTHING;
        }
        if (holder.thing != Slot.ONE || !Kinds.isOf(holder.person.kind, kind)) {
            return KIND;
        }
        return holder.person.worth();
    }

    public int item(int slot, int place) {
        if (!isSlot(slot)) {
            return BAD;
        }
        Slot holder = slots[slot];
        if (holder.thing == Slot.EMPTY) {
            return NOTHING;
        }
        if (holder.thing != Slot.SHEET) {
            return KIND;
        }
        if (!holder.sheet.hasPlace(place)) {
            return INDEX;
        }
        return holder.sheet.isNumber(place) ? holder.sheet.places[place] : KIND;
    }

    public int rest(int slot, int n) {
        if (!isSlot(slot)) {
            return BAD;
        }
        Slot holder = slots[slot];
        if (holder.thing == Slot.EMPTY) {
            return NOTHING;
        }
        if (holder.thing != Slot.NUMBER) {
            return KIND;
        }
        return n == 0 ? NO : holder.number % n;
    }

    // ---- rows, images

    public int tell(int v) {
        if (waits >= MOST_WAITING) {
            return FULL;
        }
        waiting[waits] = v;
        waits++;
        return waits;
    }

    public int check(int n) {
        int many = waits;
        waits = 0;
        if (n < 1 || n > 30) {
            return BAD;
        }
        if (!kept) {
            return NO;
        }
        thought.becomeAs(image);
        int days = Math.min(n, LAST_DAY - image.day);
        for (int i = 0; i < days; i++) {
            thought.liveDay();
            int place = 2 * i;
            if (place >= many || waiting[place] != thought.entries) {
                return 1 + place;
            }
            if (place + 1 >= many || waiting[place + 1] != thought.allRegrets()) {
                return 2 + place;
            }
        }
        return many > 2 * days ? 1 + 2 * days : 0;
    }

    public int keep() {
        image.becomeAs(now);
        kept = true;
        return now.peopleCount;
    }

    public int back() {
        if (!kept) {
            return NO;
        }
        now.becomeAs(image);
        return now.peopleCount;
    }

    public int count(int what) {
        switch (what) {
            case 0: return now.peopleCount;
            case 1: return now.day;
            case 2: return now.lockCount;
            case 3: return now.deeds;
            case 4: return now.pardons;
            case 5: return now.textCount;
            case 6: return waits;
            case 7: return tapeLength;
            case 8: return now.z;
            default: return BAD;
        }
    }

    private static boolean isKind(int kind) {
        return kind >= 0 && kind < Kinds.MANY;
    }

    private static boolean isRoom(int room) {
        return room >= 0 && room < ROOMS;
    }

    private static boolean isSort(int sort) {
        return sort >= 0 && sort < SORTS;
    }

    private static boolean isRegret(int regret) {
        return regret >= 0 && regret <= MOST_REGRET;
    }

    private static boolean isSet(int set) {
        return set >= 0 && set <= MOST_SET;
    }

    private static boolean isSheet(int sheet) {
        return sheet >= 0 && sheet < SHEETS;
    }

    private static boolean isSlot(int slot) {
        return slot >= 0 && slot < SLOTS;
    }

    private boolean isOne(int one) {
        return one >= 0 && one < now.peopleCount;
    }

    private boolean isLock(int lock) {
        return lock >= 0 && lock < now.lockCount;
    }

    private static boolean fitsLock(int what, int v) {
        switch (what) {
            case 0: case 1: return isRoom(v);
            case 2: return isSort(v);
            case 3: return isSet(v);
            default: return false;
        }
    }

    private static int held(int v, int most) {
        return Math.max(0, Math.min(most, v));
    }

    private void feedFour(int four) {
        for (int shift = 24; shift >= 0 && tapeLength < MOST_BYTES; shift -= 8) {
            tape[tapeLength] = (byte) (four >>> shift);
            tapeLength++;
        }
    }

    private int entriesThought(int n) {
        for (int i = 0; i < n; i++) {
            thought.liveDay();
        }
        return thought.entries;
    }

    private void countHits(Sheet row) {
        Arrays.fill(hits, 0);
        thought.becomeAs(now);
        for (int behind = 0; behind < row.length; behind++) {
            for (int i = 0; i < thought.peopleCount; i++) {
                if (row.isNumber(behind) && row.places[behind] == thought.people[i].room) {
                    hits[i]++;
                }
            }
            thought.liveDay();
        }
    }

    /** What one feels, wears and is worth by its kind. */
    private static final class Kinds {
        static final int ONE = 0, GUILTY = 1, HAPPY = 2, GENERAL = 3, CHILD = 4, FALSE = 5, MANY = 6;
        private static final int[] ABOVE = {-1, ONE, ONE, GUILTY, HAPPY, ONE};

        /** Whether those of a kind are of another one, too: the same, or one above it. */
        static boolean isOf(int kind, int other) {
            int step = kind;
            for (int i = 0; i < MANY && step >= 0; i++) {
                if (step == other) {
                    return true;
                }
                step = ABOVE[step];
            }
            return false;
        }

        static int feels(int kind, int regret) {
            switch (kind) {
                case GUILTY: return regret + 9;
                case GENERAL: return 2 * (regret + 9);
                case HAPPY: return regret / 2;
                case CHILD: return regret / 2 + 3;
                case FALSE: return 0;
                default: return regret;
            }
        }

        static int wears(int kind, int plain) {
            switch (kind) {
                case GUILTY: case GENERAL: return plain / 2;
                case HAPPY: return 2 * plain;
                case CHILD: return 2 * plain + 1;
                default: return plain;
            }
        }

        static int worth(int kind, int regrets) {
            switch (kind) {
                case GUILTY: return regrets + 4;
                case GENERAL: return 2 * (regrets + 4);
                case HAPPY: return 300 - regrets;
                case CHILD: return 300 - regrets - 5;
                case FALSE: return 6;
                default: return regrets;
            }
        }
    }

    private static final class Person {
        int kind;
        int room;
        final int[] regrets = new int[SORTS];

        void become(int kind, int room, int a, int b, int c) {
            this.kind = kind;
            this.room = room;
            regrets[0] = a;
            regrets[1] = b;
            regrets[2] = c;
        }

        void becomeAs(Person other) {
            become(other.kind, other.room, other.regrets[0], other.regrets[1], other.regrets[2]);
        }

        int feelsOf(int sort) {
            return Kinds.feels(kind, regrets[sort]);
        }

        int allRegrets() {
            return regrets[0] + regrets[1] + regrets[2];
        }

        int worth() {
            return Kinds.worth(kind, allRegrets());
        }

        void regretMore(int sort, int more) {
            regrets[sort] = Math.min(MOST_REGRET, regrets[sort] + more);
        }

        void regretHalf() {
            for (int sort = 0; sort < SORTS; sort++) {
                regrets[sort] /= 2;
            }
        }
    }

    private static final class Lock {
        int from;
        int to;
        int sort;
        int set;
        boolean jammed;

        void become(int from, int to, int sort, int set) {
            this.from = from;
            this.to = to;
            this.sort = sort;
            this.set = set;
            jammed = false;
        }

        void becomeAs(Lock other) {
            become(other.from, other.to, other.sort, other.set);
            jammed = other.jammed;
        }

        boolean opensFor(Person person) {
            return !jammed && person.feelsOf(sort) >= set;
        }
    }

    /** All that an image keeps: one town can become as another one. */
    private static final class Town {
        private static final int PLAIN_WEAR = 2;
        final Person[] people = new Person[MOST_PEOPLE];
        int peopleCount;
        final Lock[] locks = new Lock[MOST_LOCKS];
        int lockCount;
        final Text[] texts = new Text[MOST_TEXTS];
        int textCount;
        /** Of each key the text that counts, or null. */
        final Text[] laws = new Text[KEYS];
        int deeds = 30;
        int pardons = 10;
        int entries;
        int shut;
        int jams;
        int day;
        int z = 1;

        Town() {
            for (int i = 0; i < MOST_PEOPLE; i++) {
                people[i] = new Person();
            }
            for (int i = 0; i < MOST_LOCKS; i++) {
                locks[i] = new Lock();
            }
        }

        void becomeAs(Town other) {
            peopleCount = other.peopleCount;
            for (int i = 0; i < peopleCount; i++) {
                people[i].becomeAs(other.people[i]);
            }
            lockCount = other.lockCount;
            for (int i = 0; i < lockCount; i++) {
                locks[i].becomeAs(other.locks[i]);
            }
            textCount = other.textCount;
            for (int i = 0; i < MOST_TEXTS; i++) {
                texts[i] = other.texts[i];
            }
            for (int i = 0; i < KEYS; i++) {
                laws[i] = other.laws[i];
            }
            deeds = other.deeds;
            pardons = other.pardons;
            entries = other.entries;
            shut = other.shut;
            jams = other.jams;
            day = other.day;
            z = other.z;
        }

        int draw() {
            z = z * 1103515245 + 12345;
            return z >>> 8;
        }

        void drawPerson() {
            if (peopleCount >= MOST_PEOPLE) {
                return;
            }
            int kind = draw() % Kinds.MANY;
            int room = draw() % ROOMS;
            int a = draw() % 60;
            int b = draw() % 60;
            int c = draw() % 60;
            people[peopleCount].become(kind, room, a, b, c);
            peopleCount++;
        }

        void liveDay() {
            for (int i = 0; i < peopleCount; i++) {
                if (people[i].kind == Kinds.FALSE) {
                    tryFalsely(people[i]);
                }
                goOn(people[i]);
            }
            sufferDeed();
            sufferPardon();
            if (day % 5 == 4) {
                mendAll();
            }
            day++;
        }

        private void tryFalsely(Person person) {
            for (int i = 0; i < lockCount; i++) {
                if (locks[i].from == person.room && !locks[i].jammed) {
                    if (draw() % 100 < 30) {
                        locks[i].jammed = true;
                        jams++;
                    }
                    return;
                }
            }
        }

        private void goOn(Person person) {
            for (int i = 0; i < lockCount; i++) {
                if (locks[i].from == person.room && locks[i].opensFor(person)) {
                    goThrough(person, locks[i]);
                    return;
                }
            }
            shut++;
            person.regretMore(day % SORTS, 1);
        }

        void goThrough(Person person, Lock lock) {
            person.regrets[lock.sort] = leftOf(person.kind, lock.sort, person.regrets[lock.sort]);
            person.room = lock.to;
            entries++;
        }

        /** What is left of a regret when one of a kind has gone through a lock of its sort. */
        int leftOf(int kind, int sort, int regret) {
            Text law = laws[WEAR];
            int plain = law == null ? PLAIN_WEAR : held(law.value(regret, sort, day), MOST_REGRET);
            return Math.max(0, regret - Kinds.wears(kind, plain));
        }

        /** The draws are made in towns without people, too: what comes by lot later hangs on them. */
        private void sufferDeed() {
            if (draw() % 100 < deeds && peopleCount > 0) {
                int who = draw() % peopleCount;
                int sort = draw() % SORTS;
                people[who].regretMore(sort, 10);
            }
        }

        private void sufferPardon() {
            if (draw() % 100 < pardons && peopleCount > 0) {
                people[draw() % peopleCount].regretHalf();
            }
        }

        private void mendAll() {
            for (int i = 0; i < lockCount; i++) {
                locks[i].jammed = false;
            }
        }

        int allRegrets() {
            int all = 0;
            for (int i = 0; i < peopleCount; i++) {
                all += people[i].allRegrets();
            }
            return all;
        }

        int jammedLocks() {
            int those = 0;
            for (int i = 0; i < lockCount; i++) {
                if (locks[i].jammed) {
                    those |= 1 << i;
                }
            }
            return those;
        }

        int thoseWhoOpen(Lock lock) {
            return lock.jammed ? 0 : thoseWhoFeel(lock.sort, lock.set);
        }

        int thoseWhoFeel(int sort, int set) {
            int those = 0;
            for (int i = 0; i < peopleCount; i++) {
                if (people[i].feelsOf(sort) >= set) {
                    those |= 1 << i;
                }
            }
            return those;
        }
    }

    /**
     * Where one can come to as regrets wear. What is left of a regret hangs only on how many locks of
     * its sort one went through, not on their order; so it is enough to tell, for each three numbers of
     * latches by sorts, the set of rooms in which one can be behind just so many.
     */
    private static final class Ways {
        private static final int SIDE = MOST_LATCHES + 1;
        private static final int[] STEPS = {SIDE * SIDE, SIDE, 1};
        final int[] fewest = new int[ROOMS];
        private final int[] rooms = new int[SIDE * SIDE * SIDE];
        private final int[][] feelings = new int[SORTS][SIDE];
        private final int[] latches = new int[SORTS];

        void find(Town town, Person person, boolean pardoned) {
            Arrays.fill(fewest, NONE);
            Arrays.fill(rooms, 0);
            wearAll(town, person, pardoned);
            rooms[0] = 1 << person.room;
            for (int many = 0; many <= MOST_LATCHES; many++) {
                for (int a = 0; a <= many; a++) {
                    for (int b = 0; b <= many - a; b++) {
                        latches[0] = a;
                        latches[1] = b;
                        latches[2] = many - a - b;
                        goOnFrom(town, many);
                    }
                }
            }
        }

        int reached() {
            int those = 0;
            for (int room = 0; room < ROOMS; room++) {
                if (fewest[room] != NONE) {
                    those |= 1 << room;
                }
            }
            return those;
        }

        private void wearAll(Town town, Person person, boolean pardoned) {
            for (int sort = 0; sort < SORTS; sort++) {
                int regret = pardoned ? person.regrets[sort] / 2 : person.regrets[sort];
                for (int many = 0; many < SIDE; many++) {
                    feelings[sort][many] = Kinds.feels(person.kind, regret);
                    regret = town.leftOf(person.kind, sort, regret);
                }
            }
        }

        private void goOnFrom(Town town, int many) {
            int place = latches[0] * STEPS[0] + latches[1] * STEPS[1] + latches[2] * STEPS[2];
            int here = rooms[place];
            for (int room = 0; room < ROOMS; room++) {
                if ((here >> room & 1) == 1 && fewest[room] == NONE) {
                    fewest[room] = many;
                }
            }
            if (many == MOST_LATCHES) {
                return;
            }
            for (int i = 0; i < town.lockCount; i++) {
                Lock lock = town.locks[i];
                boolean opens = !lock.jammed && feelings[lock.sort][latches[lock.sort]] >= lock.set;
                if (opens && (here >> lock.from & 1) == 1) {
                    rooms[place + STEPS[lock.sort]] |= 1 << lock.to;
                }
            }
        }
    }

    /** A law, as a row in which each operator stands behind its sides. */
    private static final class Text {
        /** In the row numbers stand for themselves, names from here on, operators below 0. */
        static final int FIRST_NAME = 10000;
        final int number;
        final int key;
        final int pieces;
        private final int[] row;
        private final int[] stack;

        Text(int number, int key, int pieces, int[] row) {
            this.number = number;
            this.key = key;
            this.pieces = pieces;
            this.row = row;
            stack = new int[pieces];
        }

        /** What it gives, with what its first, second and third name stand for. */
        int value(int first, int second, int third) {
            int top = -1;
            for (int i = 0; i < row.length; i++) {
                int step = row[i];
                if (step >= 0) {
                    top++;
                    if (top >= stack.length) {
                        return 0;
                    }
                    int name = step - FIRST_NAME;
                    stack[top] = name < 0 ? step : name == 0 ? first : name == 1 ? second : third;
                } else if (step == -'!' && top >= 0) {
                    stack[top] = stack[top] == 0 ? 1 : 0;
                } else if (top >= 1) {
                    top--;
                    stack[top] = join(-step, stack[top], stack[top + 1]);
                }
            }
            return top >= 0 ? stack[top] : 0;
        }

        private static int join(int sign, int left, int right) {
            switch (sign) {
                case '|': return left != 0 || right != 0 ? 1 : 0;
                case '&': return left != 0 && right != 0 ? 1 : 0;
                case '<': return left < right ? 1 : 0;
                case '=': return left == right ? 1 : 0;
                case '>': return left > right ? 1 : 0;
                case '+': return left + right;
                case '-': return left - right;
                case '*': return left * right;
                default: return right == 0 ? 0 : left / right;
            }
        }
    }

    /** Reads a tape word by word; operators wait until what comes behind them is looser. */
    private static final class Parser {
        static final int SOUND = -1;
        private static final int END = 0, LETTERS = 1, DIGITS = 2, SIGN = 3;
        private static final int MOST_OPEN = 8, MOST_DIGITS = 4;
        private static final int TEST_LEVEL = 3;
        private byte[] bytes = new byte[0];
        private int length;
        private int start;
        private int end;
        private int sort;
        private boolean needsBlank;
        private int key;
        private int pieces;
        private final int[] row = new int[MOST_BYTES];
        private int rowLength;
        private final int[] open = new int[MOST_BYTES];
        private int openLength;
        private int brackets;
        private int nots;

        /** The place of the first fault of a tape, or SOUND. */
        int findFault(byte[] tape, int tapeLength) {
            begin(tape, tapeLength);
            next();
            key = keyAtHand();
            if (key < 0) {
                return start;
            }
            boolean wantsPiece = true;
            for (int i = 0; i <= MOST_BYTES; i++) {
                next();
                if (sort == END) {
                    break;
                }
                if (needsBlank || !(wantsPiece ? takesPiece() : takesSign())) {
                    return start;
                }
                // a ! or ( still wants its piece; all other signs but ) want one behind them
                wantsPiece = sort == SIGN && bytes[start] != ')';
            }
            if (wantsPiece || brackets > 0) {
                return length;
            }
            closeDownTo(1);
            return SOUND;
        }

        Text makeText(int number) {
            return new Text(number, key, pieces, Arrays.copyOf(row, rowLength));
        }

        private void begin(byte[] tape, int tapeLength) {
            bytes = tape;
            length = Math.min(tapeLength, tape.length);
            start = 0;
            end = 0;
            sort = END;
            pieces = 0;
            rowLength = 0;
            openLength = 0;
            brackets = 0;
            nots = 0;
        }

        private void next() {
            boolean behindWord = sort == LETTERS || sort == DIGITS;
            start = end;
            while (start < length && bytes[start] == ' ') {
                start++;
            }
            boolean blank = start > end;
            sort = sortAt(start);
            needsBlank = behindWord && !blank && (sort == LETTERS || sort == DIGITS);
            end = sort == END ? start : start + 1;
            while (sort != SIGN && end < length && sortAt(end) == sort) {
                end++;
            }
        }

        private int sortAt(int place) {
            if (place >= length) {
                return END;
            }
            byte at = bytes[place];
            if (at >= 'a' && at <= 'z') {
                return LETTERS;
            }
            return at >= '0' && at <= '9' ? DIGITS : SIGN;
        }

        private int keyAtHand() {
            if (isAtHand("wear")) {
                return WEAR;
            }
            if (isAtHand("fee")) {
                return FEE;
            }
            return isAtHand("fine") ? FINE : -1;
        }

        private boolean isAtHand(String word) {
            if (end - start != word.length()) {
                return false;
            }
            for (int i = 0; i < word.length(); i++) {
                if (bytes[start + i] != word.charAt(i)) {
                    return false;
                }
            }
            return true;
        }

        private boolean takesPiece() {
            switch (sort) {
                case DIGITS: return takesNumber();
                case LETTERS: return takesName();
                default: return opens(bytes[start]);
            }
        }

        private boolean takesNumber() {
            if (end - start > MOST_DIGITS) {
                return false;
            }
            int number = 0;
            for (int i = start; i < end; i++) {
                number = 10 * number + bytes[i] - '0';
            }
            pieces++;
            write(number);
            closeNots();
            return true;
        }

        private boolean takesName() {
            String names = key == WEAR ? "rst" : key == FEE ? "eh" : "ro";
            int name = end - start == 1 ? names.indexOf((char) bytes[start]) : -1;
            if (name < 0) {
                return false;
            }
            pieces++;
            write(Text.FIRST_NAME + name);
            closeNots();
            return true;
        }

        private boolean opens(byte sign) {
            if (sign == '(' && brackets < MOST_OPEN) {
                brackets++;
            } else if (sign == '!' && nots < MOST_OPEN) {
                nots++;
            } else {
                return false;
            }
            putOff(sign);
            return true;
        }

        private boolean takesSign() {
            if (sort != SIGN) {
                return false;
            }
            byte sign = bytes[start];
            if (sign == ')') {
                return closesBracket();
            }
            int level = levelOf(sign);
            if (level == 0) {
                return false;
            }
            if (level == TEST_LEVEL) {
                closeDownTo(TEST_LEVEL + 1);
                // a test has two sides at most
                if (openLength > 0 && levelOf(open[openLength - 1]) == TEST_LEVEL) {
                    return false;
                }
            }
            closeDownTo(level);
            putOff(sign);
            return true;
        }

        private boolean closesBracket() {
            if (brackets == 0) {
                return false;
            }
            closeDownTo(1);
            brackets--;
            openLength--;
            closeNots();
            return true;
        }

        /** How tightly a sign between two sides binds; 0 of all others. */
        private static int levelOf(int sign) {
            switch (sign) {
                case '|': return 1;
                case '&': return 2;
                case '<': case '=': case '>': return TEST_LEVEL;
                case '+': case '-': return 4;
                case '*': case '/': return 5;
                default: return 0;
            }
        }

        private void putOff(int sign) {
            if (openLength < open.length) {
                open[openLength] = sign;
                openLength++;
            }
        }

        private void closeDownTo(int level) {
            while (openLength > 0 && levelOf(open[openLength - 1]) >= level) {
                openLength--;
                write(-open[openLength]);
            }
        }

        private void closeNots() {
            while (openLength > 0 && open[openLength - 1] == '!') {
                openLength--;
                nots--;
                write(-'!');
            }
        }

        private void write(int step) {
            if (rowLength < row.length) {
                row[rowLength] = step;
                rowLength++;
            }
        }
    }

    /** A row of shorts or floats; as all floats are whole and small, ints hold both. */
    private static final class Sheet {
        static final int MISSING = -1, SHORTS = 0, FLOATS = 1;
        int sort = MISSING;
        int length;
        /** NONE stands for what is no number: no short and no float of a sheet can be it. */
        final int[] places = new int[MOST_PLACES];

        void become(int sort, int length) {
            this.sort = sort;
            this.length = length;
            Arrays.fill(places, 0);
        }

        void becomeAs(Sheet other) {
            sort = other.sort;
            length = other.length;
            System.arraycopy(other.places, 0, places, 0, MOST_PLACES);
        }

        boolean isMissing() {
            return sort == MISSING;
        }

        boolean hasPlace(int place) {
            return place >= 0 && place < length;
        }

        boolean hasPlaces(int place, int many) {
            return place >= 0 && many >= 0 && many <= length && place <= length - many;
        }

        boolean isNumber(int place) {
            return places[place] != NONE;
        }
    }

    /** Holds things of its own, so that what is laid in stays as it was then. */
    private static final class Slot {
        static final int EMPTY = 0, ONE = 1, SHEET = 2, NUMBER = 3;
        int thing = EMPTY;
        final Person person = new Person();
        final Sheet sheet = new Sheet();
        int number;
    }
}
