import java.util.ArrayList;
import java.util.LinkedHashMap;
import java.util.List;
import java.util.Map;

/**
 * The document once more, word by word over the Java library, to compare the class with. A call that
 * may answer FULL is tried on copies of all tables, and the copies are dropped when they hold too much.
 */
final class PlainTables {
    private static final int BAD = -1;
    private static final int NO = -2;
    private static final int FULL = -3;
    private static final int MOST_KEYS = 40000;
    private static final Value NIL = new Value(0, 0);

    record Value(int kind, long number) {
    }

    private List<Map<Value, Value>> tables = new ArrayList<>();
    private Value cursor = NIL;

    int make() {
        tables.add(new LinkedHashMap<>());
        return tables.size();
    }

    int put(int table, int keyKind, long key, int kind, long number) {
        if (noTable(table) || noKind(keyKind) || keyKind == 0 || noKind(kind)) {
            return BAD;
        }
        int before = all();
        List<Map<Value, Value>> old = copies();
        set(table, new Value(keyKind, key), new Value(kind, number));
        return came(before, old);
    }

    int kindAt(int table, int keyKind, long key) {
        return noTable(table) || noKind(keyKind) || keyKind == 0 ? BAD : get(table, keyKind, key).kind;
    }

    long numberAt(int table, int keyKind, long key) {
        return noTable(table) || noKind(keyKind) || keyKind == 0 ? 0 : get(table, keyKind, key).number;
    }

    int border(int table) {
        if (noTable(table)) {
            return BAD;
        }
        int n = 0;
        while (get(table, 3, n + 1).kind != 0) {
            n++;
        }
        return n;
    }

    int keys(int table) {
        return noTable(table) ? BAD : of(table).size();
    }

    int fields(int table) {
        return noTable(table) ? BAD : values(table).size();
    }

    int next(int table, int keyKind, long key) {
        if (noTable(table) || noKind(keyKind)) {
            return BAD;
        }
        Value behind = new Value(keyKind, key);
        if (keyKind != 0 && !of(table).containsKey(behind)) {
            return NO;
        }
        boolean seen = keyKind == 0;
        for (Map.Entry<Value, Value> entry : of(table).entrySet()) {
            if (seen && entry.getValue().kind != 0) {
                cursor = entry.getKey();
                return 1;
            }
            seen = seen || entry.getKey().equals(behind);
        }
        cursor = NIL;
        return 0;
    }

    int cursorKind() {
        return cursor.kind;
    }

    long cursorNumber() {
        return cursor.number;
    }

    int fill(int table, long from, int n, int step) {
        if (noRun(table, from, n, step)) {
            return BAD;
        }
        int before = all();
        List<Map<Value, Value>> old = copies();
        for (int j = 0; j < n; j++) {
            set(table, new Value(3, from + (long) j * step), new Value(3, j + 1));
        }
        return came(before, old);
    }

    int clear(int table, long from, int n, int step) {
        if (noRun(table, from, n, step)) {
            return BAD;
        }
        int before = fields(table);
        for (int j = 0; j < n; j++) {
            set(table, new Value(3, from + (long) j * step), NIL);
        }
        return before - fields(table);
    }

    int insert(int table, int i, int kind, long number) {
        if (noTable(table) || i < 1 || i > border(table) + 1 || noKind(kind)) {
            return BAD;
        }
        int before = all();
        List<Map<Value, Value>> old = copies();
        for (int j = border(table); j >= i; j--) {
            set(table, new Value(3, j + 1), get(table, 3, j));
        }
        set(table, new Value(3, i), new Value(kind, number));
        return came(before, old) == FULL ? FULL : border(table);
    }

    int remove(int table, int i) {
        if (noTable(table) || i < 1 || i > border(table) + 1) {
            return BAD;
        }
        int border = border(table);
        for (int j = i; j <= border; j++) {
            set(table, new Value(3, j), j == border ? NIL : get(table, 3, j + 1));
        }
        return border(table);
    }

    int reverse(int table) {
        if (noTable(table)) {
            return BAD;
        }
        int border = border(table);
        List<Value> row = new ArrayList<>();
        for (int j = 1; j <= border; j++) {
            row.add(get(table, 3, j));
        }
        for (int j = 1; j <= border; j++) {
            set(table, new Value(3, j), row.get(border - j));
        }
        return border;
    }

    int same(int one, int other) {
        if (noTable(one) || noTable(other)) {
            return BAD;
        }
        return values(one).equals(values(other)) ? 1 : 0;
    }

    int copy(int to, int from) {
        if (noTable(to) || noTable(from)) {
            return BAD;
        }
        int before = all();
        List<Map<Value, Value>> old = copies();
        values(from).forEach((key, value) -> set(to, key, value));
        return came(before, old);
    }

    int empty() {
        int before = all();
        tables.clear();
        cursor = NIL;
        return before;
    }

    int all() {
        int sum = 0;
        for (Map<Value, Value> table : tables) {
            sum += table.size();
        }
        return sum;
    }

    /** The keys of a table in the order of their coming, those with nil fields too. */
    List<Value> keyOrder(int table) {
        return new ArrayList<>(of(table).keySet());
    }

    int count() {
        return tables.size();
    }

    private boolean noTable(int table) {
        return table < 1 || table > tables.size();
    }

    private static boolean noKind(int kind) {
        return kind < 0 || kind > 7;
    }

    private boolean noRun(int table, long from, int n, int step) {
        return noTable(table) || n < 0 || n > 20000 || step < 1 || step > 1000
                || from < -1000000 || from > 1000000;
    }

    private Map<Value, Value> of(int table) {
        return tables.get(table - 1);
    }

    private Value get(int table, int keyKind, long key) {
        return of(table).getOrDefault(new Value(keyKind, key), NIL);
    }

    private void set(int table, Value key, Value value) {
        if (value.kind != 0) {
            of(table).put(key, value);
        } else if (of(table).containsKey(key)) {
            of(table).put(key, NIL);
        }
    }

    private Map<Value, Value> values(int table) {
        Map<Value, Value> values = new LinkedHashMap<>(of(table));
        values.values().removeIf(value -> value.kind == 0);
        return values;
    }

    private List<Map<Value, Value>> copies() {
        List<Map<Value, Value>> copies = new ArrayList<>();
        for (Map<Value, Value> table : tables) {
            copies.add(new LinkedHashMap<>(table));
        }
        return copies;
    }

    private int came(int before, List<Map<Value, Value>> old) {
        if (all() > MOST_KEYS) {
            tables = old;
            return FULL;
        }
        return all() - before;
    }
}
