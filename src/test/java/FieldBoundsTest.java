import java.lang.reflect.InvocationTargetException;

/** Promises 1 to 11: a test for each sentence that names a boundary. */
public final class FieldBoundsTest {
    private static final int BAD = FieldTables.BAD;
    private static final int FULL = FieldTables.FULL;

    public static void main(String[] args) throws IllegalAccessException, InvocationTargetException {
        Due.runAll(FieldBoundsTest.class);
        Due.end();
    }

    /** "No tables." */
    private static void promise01NewObjectRefusesEveryTable() {
        Refused none = Refused.on("new", Made::none);
        int[] tables = {Integer.MIN_VALUE, -1, 0, 1, 2, 30000, Integer.MAX_VALUE};
        for (int t : tables) {
            none.bad("put " + t, x -> x.put(t, 3, 1, 3, 1))
                    .bad("kindAt " + t, x -> x.kindAt(t, 3, 1))
                    .is("numberAt " + t, x -> x.numberAt(t, 3, 1), 0)
                    .bad("border " + t, x -> x.border(t))
                    .bad("keys " + t, x -> x.keys(t))
                    .bad("fields " + t, x -> x.fields(t))
                    .bad("next " + t, x -> x.next(t, 0, 0))
                    .bad("fill " + t, x -> x.fill(t, 1, 1, 1))
                    .bad("clear " + t, x -> x.clear(t, 1, 1, 1))
                    .bad("insert " + t, x -> x.insert(t, 1, 3, 1))
                    .bad("remove " + t, x -> x.remove(t, 1))
                    .bad("reverse " + t, x -> x.reverse(t))
                    .bad("same " + t, x -> x.same(t, t))
                    .bad("copy " + t, x -> x.copy(t, t));
        }
    }

    /** "No tables.": nor keys, nor a key at the cursor. */
    private static void promise01NewObjectIsEmpty() {
        Refused.on("new", Made::none)
                .is("all", x -> x.all(), 0)
                .is("empty", x -> x.empty(), 0)
                .is("cursorKind", x -> x.cursorKind(), 0)
                .is("cursorNumber", x -> x.cursorNumber(), 0);
        Due.is("new: the first table", Made.none().make(), 1);
    }

    /** "One more table: its number." */
    private static void promise02MakeAnswersTheNumber() {
        FieldTables x = Made.some();
        Due.is("make: fourth", x.make(), 4);
        Due.is("make: has no keys", x.keys(4), 0);
        Due.is("make: has no fields", x.fields(4), 0);
        Due.is("make: has no border", x.border(4), 0);
        Due.is("make: has no first key", x.next(4, 0, 0), 0);
        Due.is("make: others stay", x.keys(1), 9);
        Due.is("make: when keys are full", Made.full().make(), 4);
    }

    /** "FULL when there are 30000." */
    private static void promise02MakeFull() {
        FieldTables x = Made.tables(29999);
        Due.is("make: the 30000th", x.make(), 30000);
        Refused.on("make at 30000", () -> Made.tables(30000)).full("make", y -> y.make());
        x.make();
        Due.is("make: the last one is used", x.put(30000, 3, 1, 3, 1), 1);
        x.empty();
        Due.is("make: after empty", x.make(), 1);
    }

    /** "A field gets a value: 1 when its key comes by that, else 0." */
    private static void promise03PutAnswers1OnlyWhenTheKeyComes() {
        FieldTables x = Made.oneTable();
        Due.is("put: nil, no key", x.put(1, 2, 4, 0, 9), 0);
        Due.is("put: comes", x.put(1, 2, 4, 1, 9), 1);
        Due.is("put: same value", x.put(1, 2, 4, 1, 9), 0);
        Due.is("put: other value", x.put(1, 2, 4, 7, -9), 0);
        Due.is("put: kind", x.kindAt(1, 2, 4), 7);
        Due.is("put: number", x.numberAt(1, 2, 4), -9);
        Due.is("put: nil", x.put(1, 2, 4, 0, 9), 0);
        Due.is("put: nil again", x.put(1, 2, 4, 0, 9), 0);
        Due.is("put: value again", x.put(1, 2, 4, 1, 9), 0);
    }

    /** "BAD when there is no such table" */
    private static void promise03PutBadTable() {
        Refused some = Refused.on("put", Made::some);
        int[] tables = {Integer.MIN_VALUE, -1, 0, 4, 30000, 30001, (1 << 29) + 1, Integer.MAX_VALUE};
        for (int t : tables) {
            some.bad("table " + t, x -> x.put(t, 3, 1, 3, 1));
            some.bad("nil, table " + t, x -> x.put(t, 3, 1, 0, 1));
        }
        Due.is("put: first table", Made.some().put(1, 3, 6, 3, 1), 1);
        Due.is("put: last table", Made.some().put(3, 3, 6, 3, 1), 1);
    }

    /** "BAD when .. the kinds are not 1 .. 7 and 0 .. 7": the key's. */
    private static void promise03PutBadKeyKind() {
        Refused some = Refused.on("put", Made::some);
        int[] kinds = {Integer.MIN_VALUE, -1, 0, 8, 11, 259, Integer.MAX_VALUE};
        for (int kind : kinds) {
            some.bad("keyKind " + kind, x -> x.put(1, kind, 1, 3, 1));
            some.bad("nil, keyKind " + kind, x -> x.put(1, kind, 1, 0, 1));
        }
        Due.is("put: keyKind 1", Made.some().put(3, 1, 1, 3, 1), 1);
        Due.is("put: keyKind 7", Made.some().put(3, 7, 1, 3, 1), 1);
    }

    /** "BAD when .. the kinds are not 1 .. 7 and 0 .. 7": the value's. */
    private static void promise03PutBadKind() {
        Refused some = Refused.on("put", Made::some);
        int[] kinds = {Integer.MIN_VALUE, -1, 8, 256, 259, Integer.MAX_VALUE};
        for (int kind : kinds) {
            some.bad("kind " + kind, x -> x.put(1, 3, 1, kind, 1));
            some.bad("new key, kind " + kind, x -> x.put(1, 3, 6, kind, 1));
        }
        Due.is("put: kind 0", Made.some().put(3, 1, 1, 0, 1), 0);
        Due.is("put: kind 1", Made.some().put(3, 1, 1, 1, 1), 1);
        Due.is("put: kind 7", Made.some().put(3, 1, 1, 7, 1), 1);
    }

    /** "FULL when a key would have to come and there are 40000." */
    private static void promise03PutFull() {
        Refused.on("put", Made::full)
                .full("no key yet", x -> x.put(1, 1, 1, 1, 1))
                .full("other number", x -> x.put(1, 3, 20001, 3, 1))
                .full("empty table", x -> x.put(3, 3, 1, 3, 1))
                .full("key of another table", x -> x.put(1, 4, 1, 5, 1))
                .is("nil, no key has to come", x -> x.put(3, 3, 1, 0, 1), 0);
    }

    /** "FULL when a key would have to come and there are 40000.": 39999 are not, nor has an old key to come. */
    private static void promise03PutJustNotFull() {
        FieldTables x = Made.keys(20000, 19999);
        Due.is("put: the 40000th", x.put(3, 1, 1, 1, 1), 1);
        Due.is("put: the 40001st", x.put(3, 1, 2, 1, 1), FULL);
        Due.is("put: an old key", x.put(3, 1, 1, 2, 5), 0);
        Due.is("put: its value", x.numberAt(3, 1, 1), 5);
        Due.is("put: an old key, nil", x.put(3, 1, 1, 0, 5), 0);
        Due.is("put: nil leaves no room", x.put(3, 1, 2, 1, 1), FULL);
        Due.is("put: an old key with a nil field", x.put(3, 1, 1, 2, 6), 0);
        Due.is("put: its value then", x.numberAt(3, 1, 1), 6);
    }

    /** "The kind of a field's value": 0 for nil. */
    private static void promise04KindAtOfNil() {
        FieldTables x = Made.some();
        Due.is("kindAt: never came", x.kindAt(1, 3, 6), 0);
        Due.is("kindAt: became nil", x.kindAt(1, 4, 9), 0);
        Due.is("kindAt: least kind", x.kindAt(1, 5, 9), 2);
        Due.is("kindAt: greatest kind", x.kindAt(1, 7, Long.MIN_VALUE), 7);
        Due.is("kindAt: key of another table", x.kindAt(1, 1, -2), 0);
    }

    /** "BAD when there is no such table, or key." */
    private static void promise04KindAtBad() {
        Refused some = Refused.on("kindAt", Made::some);
        int[] tables = {Integer.MIN_VALUE, -1, 0, 4, 30001, (1 << 29) + 1, Integer.MAX_VALUE};
        for (int t : tables) {
            some.bad("table " + t, x -> x.kindAt(t, 3, 1));
        }
        int[] kinds = {Integer.MIN_VALUE, -1, 0, 8, 11, Integer.MAX_VALUE};
        for (int kind : kinds) {
            some.bad("keyKind " + kind, x -> x.kindAt(1, kind, 1));
        }
        some.is("keyKind 1", x -> x.kindAt(2, 1, -2), 4);
        some.is("keyKind 7", x -> x.kindAt(1, 7, Long.MIN_VALUE), 7);
        some.is("last table", x -> x.kindAt(3, 3, 1), 0);
    }

    /** "0 when it is nil" */
    private static void promise05NumberAtOfNil() {
        FieldTables x = Made.some();
        Due.is("numberAt: never came", x.numberAt(1, 3, 6), 0);
        Due.is("numberAt: became nil", x.numberAt(2, 3, 2), 0);
        Due.is("numberAt: greatest", x.numberAt(1, 7, Long.MIN_VALUE), Long.MAX_VALUE);
        Due.is("numberAt: below 0", x.numberAt(1, 5, 9), -1);
        x.clear(1, 1, 5, 1);
        Due.is("numberAt: cleared", x.numberAt(1, 3, 2), 0);
        x.fill(1, 1, 5, 1);
        x.remove(1, 1);
        Due.is("numberAt: removed", x.numberAt(1, 3, 5), 0);
    }

    /** "0 when .. there is no such table or key" */
    private static void promise05NumberAtOfNoTableOrKey() {
        Refused some = Refused.on("numberAt", Made::some);
        int[] tables = {Integer.MIN_VALUE, -1, 0, 4, 30001, (1 << 29) + 1, Integer.MAX_VALUE};
        for (int t : tables) {
            some.is("table " + t, x -> x.numberAt(t, 3, 1), 0);
        }
        int[] kinds = {Integer.MIN_VALUE, -1, 0, 8, 11, Integer.MAX_VALUE};
        for (int kind : kinds) {
            some.is("keyKind " + kind, x -> x.numberAt(1, kind, 1), 0);
        }
        some.is("keyKind 1", x -> x.numberAt(2, 1, -2), 6);
        some.is("keyKind 7", x -> x.numberAt(1, 7, Long.MIN_VALUE), Long.MAX_VALUE);
    }

    /** "THE BORDER": of an empty table, of a row of one, and of a row of all keys. */
    private static void promise06BorderLeastAndGreatest() {
        FieldTables x = Made.oneTable();
        Due.is("border: empty", x.border(1), 0);
        x.put(1, 3, 2, 1, 1);
        Due.is("border: 1 is nil", x.border(1), 0);
        x.put(1, 3, 2, 0, 1);
        x.put(1, 3, 1, 1, 1);
        Due.is("border: 1", x.border(1), 1);
        FieldTables y = Made.fullRow();
        Due.is("border: 40000", y.border(1), 40000);
        y.put(1, 3, 40000, 0, 0);
        Due.is("border: 39999", y.border(1), 39999);
        y.put(1, 3, 1, 0, 0);
        Due.is("border: 0", y.border(1), 0);
        y.put(1, 3, 1, 1, 1);
        Due.is("border: 39999 again", y.border(1), 39999);
        y.put(1, 3, 40000, 1, 1);
        Due.is("border: 40000 again", y.border(1), 40000);
    }

    /** "BAD." of border */
    private static void promise06BorderBad() {
        Refused some = Refused.on("border", Made::some);
        int[] tables = {Integer.MIN_VALUE, -1, 0, 4, 30001, Integer.MAX_VALUE};
        for (int t : tables) {
            some.bad("table " + t, x -> x.border(t));
        }
        some.is("first table", x -> x.border(1), 5).is("last table", x -> x.border(3), 0);
    }

    /** "How many keys a table has (also those with nil fields)" */
    private static void promise07KeysWithNilFieldsToo() {
        FieldTables x = Made.oneTable();
        Due.is("keys: empty", x.keys(1), 0);
        x.put(1, 3, 1, 0, 1);
        Due.is("keys: nil brought none", x.keys(1), 0);
        x.put(1, 3, 1, 1, 1);
        Due.is("keys: one", x.keys(1), 1);
        x.put(1, 3, 1, 0, 1);
        Due.is("keys: one with a nil field", x.keys(1), 1);
        FieldTables y = Made.fullRow();
        Due.is("keys: full", y.keys(1), 40000);
        y.clear(1, 1, 20000, 1);
        y.clear(1, 20001, 20000, 1);
        Due.is("keys: full of nil fields", y.keys(1), 40000);
    }

    /** "BAD." of keys */
    private static void promise07KeysBad() {
        Refused some = Refused.on("keys", Made::some);
        int[] tables = {Integer.MIN_VALUE, -1, 0, 4, 30001, Integer.MAX_VALUE};
        for (int t : tables) {
            some.bad("table " + t, x -> x.keys(t));
        }
        some.is("first table", x -> x.keys(1), 9).is("last table", x -> x.keys(3), 0);
    }

    /** "How many of its fields are not nil" */
    private static void promise08FieldsThatAreNotNil() {
        FieldTables x = Made.oneTable();
        Due.is("fields: empty", x.fields(1), 0);
        x.put(1, 3, 1, 1, 1);
        x.put(1, 3, 1, 2, 1);
        Due.is("fields: one", x.fields(1), 1);
        x.put(1, 3, 1, 0, 1);
        Due.is("fields: none again", x.fields(1), 0);
        x.put(1, 3, 1, 0, 1);
        Due.is("fields: still none", x.fields(1), 0);
        FieldTables y = Made.fullRow();
        Due.is("fields: full", y.fields(1), 40000);
        y.clear(1, 1, 20000, 1);
        Due.is("fields: half", y.fields(1), 20000);
        y.clear(1, 20001, 20000, 1);
        Due.is("fields: full of nil fields", y.fields(1), 0);
    }

    /** "BAD." of fields */
    private static void promise08FieldsBad() {
        Refused some = Refused.on("fields", Made::some);
        int[] tables = {Integer.MIN_VALUE, -1, 0, 4, 30001, Integer.MAX_VALUE};
        for (int t : tables) {
            some.bad("table " + t, x -> x.fields(t));
        }
        some.is("first table", x -> x.fields(1), 8).is("last table", x -> x.fields(3), 0);
    }

    private static void cursor(FieldTables x, String what, int kind, long number) {
        Due.is(what + ": cursorKind", x.cursorKind(), kind);
        Due.is(what + ": cursorNumber", x.cursorNumber(), number);
    }

    /** "THE CURSOR comes to the first key of a table (keyKind 0) .. whose field is not nil: 1" */
    private static void promise09NextFirst() {
        FieldTables x = Made.some();
        Due.is("next: first", x.next(1, 0, 0), 1);
        cursor(x, "next: first", 5, 9);
        Due.is("next: first, key does not count", x.next(1, 0, Long.MIN_VALUE), 1);
        cursor(x, "next: first, key does not count", 5, 9);
        x.put(1, 5, 9, 0, 0);
        Due.is("next: first is nil", x.next(1, 0, 0), 1);
        cursor(x, "next: first is nil", 3, 1);
        x.clear(1, 1, 7, 1);
        Due.is("next: only the last is not nil", x.next(1, 0, 0), 1);
        cursor(x, "next: only the last is not nil", 7, Long.MIN_VALUE);
    }

    /** "or the first one behind a key, whose field is not nil: 1" */
    private static void promise09NextBehindAKey() {
        FieldTables x = Made.some();
        Due.is("next: behind the first", x.next(1, 5, 9), 1);
        cursor(x, "next: behind the first", 3, 1);
        Due.is("next: over a nil field", x.next(1, 3, 7), 1);
        cursor(x, "next: over a nil field", 7, Long.MIN_VALUE);
        Due.is("next: behind a nil field", x.next(1, 4, 9), 1);
        cursor(x, "next: behind a nil field", 7, Long.MIN_VALUE);
        x.put(1, 5, 9, 0, 0);
        Due.is("next: behind a nil field at the first place", x.next(1, 5, 9), 1);
        cursor(x, "next: behind a nil field at the first place", 3, 1);
    }

    /** "0 when there is none (the cursor is nil then)" */
    private static void promise09NextNone() {
        FieldTables x = Made.some();
        Due.is("next: behind the last", x.next(1, 7, Long.MIN_VALUE), 0);
        cursor(x, "next: behind the last", 0, 0);
        x = Made.some();
        Due.is("next: empty table", x.next(3, 0, 0), 0);
        cursor(x, "next: empty table", 0, 0);
        x = Made.some();
        x.put(2, 5, 9, 0, 0);
        x.put(2, 1, -2, 0, 0);
        Due.is("next: all are nil", x.next(2, 0, 0), 0);
        cursor(x, "next: all are nil", 0, 0);
        x = Made.some();
        x.put(2, 5, 9, 0, 0);
        x.put(2, 1, -2, 0, 0);
        Due.is("next: all behind are nil", x.next(2, 3, 2), 0);
        cursor(x, "next: all behind are nil", 0, 0);
    }

    /** "BAD when there is no such table, or keyKind is not 0 .. 7" */
    private static void promise09NextBad() {
        Refused some = Refused.on("next", Made::some);
        int[] tables = {Integer.MIN_VALUE, -1, 0, 4, 30001, (1 << 29) + 1, Integer.MAX_VALUE};
        for (int t : tables) {
            some.bad("first, table " + t, x -> x.next(t, 0, 0));
            some.bad("behind, table " + t, x -> x.next(t, 5, 9));
        }
        int[] kinds = {Integer.MIN_VALUE, -1, 8, 11, 13, Integer.MAX_VALUE};
        for (int kind : kinds) {
            some.bad("keyKind " + kind, x -> x.next(1, kind, 9));
        }
        Due.is("next: keyKind 0", Made.some().next(1, 0, 9), 1);
        Due.is("next: keyKind 1", Made.some().next(2, 1, -2), 0);
        Due.is("next: keyKind 7", Made.some().next(1, 7, Long.MIN_VALUE), 0);
        Due.is("next: last table", Made.some().next(3, 0, 0), 0);
    }

    /** "NO.": "It was no key of the table." */
    private static void promise09NextNo() {
        Refused.on("next", Made::some)
                .no("never came", x -> x.next(1, 3, 6))
                .no("of another table", x -> x.next(1, 1, -2))
                .no("of another kind", x -> x.next(1, 6, 9))
                .no("keyKind 1", x -> x.next(1, 1, 9))
                .no("keyKind 7", x -> x.next(1, 7, 9))
                .no("empty table", x -> x.next(3, 3, 1));
        FieldTables x = Made.oneTable();
        x.put(1, 3, 1, 0, 0);
        Due.is("next: nil brought no key", x.next(1, 3, 1), FieldTables.NO);
        x.put(1, 3, 1, 1, 0);
        Due.is("next: now it is one", x.next(1, 3, 1), 0);
        x.put(1, 3, 1, 0, 0);
        Due.is("next: and stays one", x.next(1, 3, 1), 0);
        Due.is("next: full", Made.full().next(1, 3, 20001), FieldTables.NO);
    }

    /** "The kind of the key at which the cursor is; 0 at first." */
    private static void promise10CursorKind() {
        FieldTables x = Made.tables(2);
        Due.is("cursorKind: at first", x.cursorKind(), 0);
        for (int kind = 1; kind <= 7; kind++) {
            x.put(1, kind, 5, 8 - kind, 1);
        }
        Due.is("cursorKind: put does not move it", x.cursorKind(), 0);
        x.next(1, 0, 0);
        for (int kind = 1; kind <= 7; kind++) {
            Due.is("cursorKind: of the key, not of the value", x.cursorKind(), kind);
            x.next(1, kind, 5);
        }
        Due.is("cursorKind: none", x.cursorKind(), 0);
    }

    /** "Its number; 0 when it is nil." */
    private static void promise11CursorNumber() {
        FieldTables x = Made.oneTable();
        Due.is("cursorNumber: at first", x.cursorNumber(), 0);
        long[] keys = {Long.MIN_VALUE, -1, 1, Long.MAX_VALUE};
        for (long key : keys) {
            x.put(1, 2, key, 3, 7);
        }
        x.next(1, 0, 0);
        for (long key : keys) {
            Due.is("cursorNumber: of the key, not of the value", x.cursorNumber(), key);
            x.next(1, 2, key);
        }
        Due.is("cursorNumber: nil behind the last", x.cursorNumber(), 0);
        x.next(1, 0, 0);
        x.empty();
        Due.is("cursorNumber: nil after empty", x.cursorNumber(), 0);
    }

    /** The cursor is moved by next and empty alone: no promise but theirs names it. */
    private static void promise10And11OtherCallsLeaveTheCursor() {
        FieldTables x = Made.some();
        cursor(x, "cursor", 7, Long.MIN_VALUE);
        x.put(1, 7, Long.MIN_VALUE, 0, 0);
        x.make();
        x.fill(1, 1, 20, 1);
        x.clear(1, 3, 5, 1);
        x.insert(1, 1, 3, 1);
        x.remove(1, 1);
        x.reverse(1);
        x.copy(2, 1);
        x.same(1, 2);
        cursor(x, "cursor: stays", 7, Long.MIN_VALUE);
    }
}
