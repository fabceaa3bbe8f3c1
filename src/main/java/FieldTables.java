import java.util.Arrays;

/**
 * Tables of fields by keys of several kinds. All fields of all tables stand in one store, and each
 * table strings its own together in the order in which their keys came.
 */
public final class FieldTables {
    public static final int BAD = -1;
    public static final int NO = -2;
    public static final int FULL = -3;

    private static final int MOST_TABLES = 30000;
    private static final int MOST_KEYS = 40000;

    private static final int NIL = 0;
    private static final int WHOLE = 3;
    private static final int LAST_KIND = 7;

    private static final int MOST_IN_A_RUN = 20000;
    private static final int WIDEST_STEP = 1000;
    private static final long FURTHEST_FROM = 1000000L;

    /** Stands where no key has come; the fields of keys that have are numbered from 1. */
    private static final int NONE = 0;

    private final TableRows tables = new TableRows();
    private final FieldStore store = new FieldStore();
    private int cursorKeyKind;
    private long cursorKeyNumber;

    public FieldTables() {
        cursorKeyKind = NIL;
        cursorKeyNumber = 0L;
    }

    public int make() {
        return tables.count == MOST_TABLES ? FULL : tables.open();
    }

    public int put(int table, int keyKind, long key, int kind, long number) {
        if (!tables.has(table) || !isKeyKind(keyKind) || !isKind(kind)) {
            return BAD;
        }
        if (kind != NIL && store.room() == 0 && store.find(table, keyKind, key) == NONE) {
            return FULL;
        }
        return give(table, keyKind, key, kind, number);
    }

    public int kindAt(int table, int keyKind, long key) {
        if (!tables.has(table) || !isKeyKind(keyKind)) {
            return BAD;
        }
        return store.kinds[store.find(table, keyKind, key)];
    }

    public long numberAt(int table, int keyKind, long key) {
        if (!tables.has(table) || !isKeyKind(keyKind)) {
            return 0L;
        }
        return store.numbers[store.find(table, keyKind, key)];
    }

    public int border(int table) {
        return tables.has(table) ? tables.borders[table] : BAD;
    }

    public int keys(int table) {
        return tables.has(table) ? tables.keyCounts[table] : BAD;
    }

    public int fields(int table) {
        return tables.has(table) ? tables.valueCounts[table] : BAD;
    }

    public int next(int table, int keyKind, long key) {
        if (!tables.has(table) || !isKind(keyKind)) {
            return BAD;
        }
        int field = tables.firsts[table];
        if (keyKind != NIL) {
            int before = store.find(table, keyKind, key);
            if (before == NONE) {
                return NO;
            }
            field = store.followers[before];
        }
        return setCursor(firstWithValue(table, field));
    }

    public int cursorKind() {
        return cursorKeyKind;
    }

    public long cursorNumber() {
        return cursorKeyNumber;
    }

    public int fill(int table, long from, int n, int step) {
        if (!isRun(table, from, n, step)) {
            return BAD;
        }
        if (n > store.room() && missing(table, from, n, step) > store.room()) {
            return FULL;
        }
        int come = 0;
        long key = from;
        for (int value = 1; value <= n; value++) {
            come += give(table, WHOLE, key, WHOLE, value);
            key += step;
        }
        return come;
    }

    public int clear(int table, long from, int n, int step) {
        if (!isRun(table, from, n, step)) {
            return BAD;
        }
        int before = tables.valueCounts[table];
        long key = from;
        for (int done = 0; done < n; done++) {
            give(table, WHOLE, key, NIL, 0L);
            key += step;
        }
        return before - tables.valueCounts[table];
    }

    public int insert(int table, int i, int kind, long number) {
        if (!isPlace(table, i) || !isKind(kind)) {
            return BAD;
        }
        int border = tables.borders[table];
        boolean takesPlaceBehind = i <= border || kind != NIL;
        if (takesPlaceBehind && store.room() == 0 && whole(table, border + 1L) == NONE) {
            return FULL;
        }
        if (i <= border) {
            // Only the place behind the border was nil, and only its key may have to come.
            int last = whole(table, border);
            give(table, WHOLE, border + 1L, store.kinds[last], store.numbers[last]);
            moveUp(table, i, border);
        }
        give(table, WHOLE, i, kind, number);
        return tables.borders[table];
    }

    public int remove(int table, int i) {
        if (!isPlace(table, i)) {
            return BAD;
        }
        int border = tables.borders[table];
        if (i <= border) {
            moveDown(table, i, border);
            give(table, WHOLE, border, NIL, 0L);
        }
        return tables.borders[table];
    }

    public int reverse(int table) {
        if (!tables.has(table)) {
            return BAD;
        }
        int border = tables.borders[table];
        int high = border;
        for (int low = 1; low < high; low++) {
            store.swapValues(whole(table, low), whole(table, high));
            high--;
        }
        return border;
    }

    public int same(int one, int other) {
        if (!tables.has(one) || !tables.has(other)) {
            return BAD;
        }
        // With as many values on both sides, all of one found in the other are all of the other.
        boolean equal = tables.valueCounts[one] == tables.valueCounts[other] && holdsAll(other, one);
        return equal ? 1 : 0;
    }

    public int copy(int to, int from) {
        if (!tables.has(to) || !tables.has(from)) {
            return BAD;
        }
        if (tables.valueCounts[from] > store.room() && missingOf(to, from) > store.room()) {
            return FULL;
        }
        int come = 0;
        int field = tables.firsts[from];
        int count = tables.keyCounts[from];
        for (int seen = 0; seen < count && field != NONE; seen++) {
            int kind = store.kinds[field];
            if (kind != NIL) {
                come += give(to, store.keyKind(field), store.keyNumbers[field], kind, store.numbers[field]);
            }
            field = store.followers[field];
        }
        return come;
    }

    public int empty() {
        int count = store.count;
        tables.forget();
        store.forget();
        setCursor(NONE);
        return count;
    }

    public int all() {
        return store.count;
    }

    private static boolean isKind(int kind) {
        return kind >= NIL && kind <= LAST_KIND;
    }

    private static boolean isKeyKind(int kind) {
        return kind != NIL && isKind(kind);
    }

    private boolean isRun(int table, long from, int n, int step) {
        return tables.has(table)
                && n >= 0 && n <= MOST_IN_A_RUN
                && step >= 1 && step <= WIDEST_STEP
                && from >= -FURTHEST_FROM && from <= FURTHEST_FROM;
    }

    /** Whether i is one of the whole numbers from 1 to the one behind the border. */
    private boolean isPlace(int table, int i) {
        return tables.has(table) && i >= 1 && i <= tables.borders[table] + 1;
    }

    private int whole(int table, long key) {
        return store.find(table, WHOLE, key);
    }

    /**
     * Gives a field a value and tells how many keys come by that, 0 or 1. The caller has seen to it
     * that there is room, so that a call that answers FULL has changed nothing before.
     */
    private int give(int table, int keyKind, long key, int kind, long number) {
        int field = store.find(table, keyKind, key);
        int come = 0;
        if (field == NONE) {
            if (kind == NIL) {
                return 0;
            }
            field = store.add(table, keyKind, key);
            append(table, field);
            come = 1;
        }
        change(table, field, kind, number);
        return come;
    }

    private void append(int table, int field) {
        int last = tables.lasts[table];
        if (last == NONE) {
            tables.firsts[table] = field;
        } else {
            store.followers[last] = field;
        }
        tables.lasts[table] = field;
        tables.keyCounts[table]++;
    }

    private void change(int table, int field, int kind, long number) {
        boolean had = store.kinds[field] != NIL;
        boolean has = kind != NIL;
        store.setValue(field, kind, number);
        if (had == has) {
            return;
        }
        tables.valueCounts[table] += has ? 1 : -1;
        if (store.keyKind(field) != WHOLE) {
            return;
        }
        if (has) {
            raiseBorder(table, store.keyNumbers[field]);
        } else {
            lowerBorder(table, store.keyNumbers[field]);
        }
    }

    /** The field of a whole number has got a value: fields that waited behind it may count now. */
    private void raiseBorder(int table, long key) {
        int border = tables.borders[table];
        if (key != border + 1L) {
            return;
        }
        border++;
        while (border < MOST_KEYS && store.kinds[store.find(table, WHOLE, border + 1L)] != NIL) {
            border++;
        }
        tables.borders[table] = border;
    }

    /** The field of a whole number has become nil. */
    private void lowerBorder(int table, long key) {
        if (key >= 1L && key <= tables.borders[table]) {
            tables.borders[table] = (int) (key - 1L);
        }
    }

    /** The first field that is not nil from a field of the table on, or NONE. */
    private int firstWithValue(int table, int from) {
        int field = from;
        int count = tables.keyCounts[table];
        for (int seen = 0; seen < count && field != NONE; seen++) {
            if (store.kinds[field] != NIL) {
                return field;
            }
            field = store.followers[field];
        }
        return NONE;
    }

    private int setCursor(int field) {
        if (field == NONE) {
            cursorKeyKind = NIL;
            cursorKeyNumber = 0L;
            return 0;
        }
        cursorKeyKind = store.keyKind(field);
        cursorKeyNumber = store.keyNumbers[field];
        return 1;
    }

    /** How many of the whole numbers of a run are no keys of the table yet. */
    private int missing(int table, long from, int n, int step) {
        int missing = 0;
        long key = from;
        for (int seen = 0; seen < n; seen++) {
            if (whole(table, key) == NONE) {
                missing++;
            }
            key += step;
        }
        return missing;
    }

    /** How many keys of a table with values are no keys of another table yet. */
    private int missingOf(int to, int from) {
        int missing = 0;
        int field = tables.firsts[from];
        int count = tables.keyCounts[from];
        for (int seen = 0; seen < count && field != NONE; seen++) {
            if (store.kinds[field] != NIL && twin(to, field) == NONE) {
                missing++;
            }
            field = store.followers[field];
        }
        return missing;
    }

    /** Whether a table holds every value that another one has, under the same key. */
    private boolean holdsAll(int table, int other) {
        int field = tables.firsts[other];
        int count = tables.keyCounts[other];
        for (int seen = 0; seen < count && field != NONE; seen++) {
            if (store.kinds[field] != NIL && !store.sameValues(field, twin(table, field))) {
                return false;
            }
            field = store.followers[field];
        }
        return true;
    }

    /** The field that a table has for the key of a field of any table. */
    private int twin(int table, int field) {
        return store.find(table, store.keyKind(field), store.keyNumbers[field]);
    }

    /** Moves the values of the fields from i on, but for the border's, one place up. */
    private void moveUp(int table, int i, int border) {
        int upper = whole(table, border);
        for (int place = border - 1; place >= i; place--) {
            int lower = whole(table, place);
            store.copyValue(upper, lower);
            upper = lower;
        }
    }

    /** Moves the values of the fields behind i, up to the border, one place down. */
    private void moveDown(int table, int i, int border) {
        int lower = whole(table, i);
        for (int place = i + 1; place <= border; place++) {
            int upper = whole(table, place);
            store.copyValue(lower, upper);
            lower = upper;
        }
    }

    /** What is known of each table, in rows by its number; place 0 is not used. */
    private static final class TableRows {
        private static final int FIRST_LENGTH = 16;

        int count = 0;
        int[] firsts = new int[FIRST_LENGTH];
        int[] lasts = new int[FIRST_LENGTH];
        int[] keyCounts = new int[FIRST_LENGTH];
        int[] valueCounts = new int[FIRST_LENGTH];
        int[] borders = new int[FIRST_LENGTH];

        boolean has(int table) {
            return table >= 1 && table <= count;
        }

        /** Opens one more table; the caller has seen that there are fewer than MOST_TABLES. */
        int open() {
            if (count + 1 >= firsts.length) {
                grow();
            }
            count++;
            // The rows are used again after forget(), so they may hold what an old table left.
            firsts[count] = NONE;
            lasts[count] = NONE;
            keyCounts[count] = 0;
            valueCounts[count] = 0;
            borders[count] = 0;
            return count;
        }

        void forget() {
            count = 0;
        }

        private void grow() {
            int length = Math.min(firsts.length * 2, MOST_TABLES + 1);
            firsts = Arrays.copyOf(firsts, length);
            lasts = Arrays.copyOf(lasts, length);
            keyCounts = Arrays.copyOf(keyCounts, length);
            valueCounts = Arrays.copyOf(valueCounts, length);
            borders = Arrays.copyOf(borders, length);
        }
    }

    /**
     * The fields of all keys that have come, in rows by the order of their coming, and a row of slots
     * by which a key is found. No key ever goes alone, so a search may end at the first free slot.
     * Place NONE of the rows is never written, and so reads as a field that is nil.
     */
    private static final class FieldStore {
        private static final int FIRST_LENGTH = 64;
        private static final int SLOTS_A_FIELD = 2;
        // All rows ever made count: growing fourfold keeps their sum near the last one's length.
        private static final int GROWTH = 4;
        private static final int KIND_BITS = 3;

        int count = 0;
        /** The table and the kind of each key, in one number. */
        int[] owners = new int[FIRST_LENGTH];
        long[] keyNumbers = new long[FIRST_LENGTH];
        byte[] kinds = new byte[FIRST_LENGTH];
        long[] numbers = new long[FIRST_LENGTH];
        /** For each field the one of the same table whose key came next. */
        int[] followers = new int[FIRST_LENGTH];
        /** The length is a power of two, so that a mask brings any number to a slot. */
        private int[] slots = new int[FIRST_LENGTH * SLOTS_A_FIELD];

        int room() {
            return MOST_KEYS - count;
        }

        int keyKind(int field) {
            return owners[field] & LAST_KIND;
        }

        /** The field of a key, or NONE. */
        int find(int table, int keyKind, long key) {
            return slots[slotOf(owner(table, keyKind), key)];
        }

        /** Adds a key that is not there; the caller has seen that there is room. */
        int add(int table, int keyKind, long key) {
            if (count + 1 >= owners.length) {
                grow();
            }
            count++;
            owners[count] = owner(table, keyKind);
            keyNumbers[count] = key;
            kinds[count] = NIL;
            numbers[count] = 0L;
            followers[count] = NONE;
            slots[slotOf(owners[count], key)] = count;
            return count;
        }

        /** The number of nil does not count, and is kept as 0. */
        void setValue(int field, int kind, long number) {
            kinds[field] = (byte) kind;
            numbers[field] = kind == NIL ? 0L : number;
        }

        void copyValue(int to, int from) {
            kinds[to] = kinds[from];
            numbers[to] = numbers[from];
        }

        void swapValues(int one, int other) {
            byte kind = kinds[one];
            long number = numbers[one];
            copyValue(one, other);
            kinds[other] = kind;
            numbers[other] = number;
        }

        boolean sameValues(int one, int other) {
            return kinds[one] == kinds[other] && numbers[one] == numbers[other];
        }

        void forget() {
            count = 0;
            Arrays.fill(slots, NONE);
        }

        private static int owner(int table, int keyKind) {
            return (table << KIND_BITS) | keyKind;
        }

        /** The slot that holds a key, or the free one where its search ends; half of them are free. */
        private int slotOf(int owner, long key) {
            int mask = slots.length - 1;
            int slot = scatter(owner, key) & mask;
            for (int tried = 0; tried <= mask; tried++) {
                int field = slots[slot];
                if (field == NONE || (keyNumbers[field] == key && owners[field] == owner)) {
                    return slot;
                }
                slot = (slot + 1) & mask;
            }
            return slot;
        }

        /** Spreads runs of keys with any step evenly: long chains of full slots would be slow. */
        private static int scatter(int owner, long key) {
            long mixed = key * 0x9E3779B97F4A7C15L + owner * 0xC2B2AE3D27D4EB4FL;
            mixed = (mixed ^ (mixed >>> 32)) * 0xD6E8FEB86659FD93L;
            return (int) (mixed ^ (mixed >>> 32));
        }

        private void grow() {
            int length = Math.min(owners.length * GROWTH, MOST_KEYS + 1);
            owners = Arrays.copyOf(owners, length);
            keyNumbers = Arrays.copyOf(keyNumbers, length);
            kinds = Arrays.copyOf(kinds, length);
            numbers = Arrays.copyOf(numbers, length);
            followers = Arrays.copyOf(followers, length);
            slots = new int[slots.length * GROWTH];
            for (int field = 1; field <= count; field++) {
                slots[slotOf(owners[field], keyNumbers[field])] = field;
            }
        }
    }
}
