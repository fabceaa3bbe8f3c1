/** Each promise by itself: ordinary inputs, the edges that the document names, and wrong inputs. */
public final class PromisesTest {
    private static final int BAD = FieldTables.BAD;
    private static final int NO = FieldTables.NO;
    private static final int FULL = FieldTables.FULL;
    private static final int WHOLE = 3;
    private static final int[] NO_TABLES = {
        Integer.MIN_VALUE, -1, 0, 2, 30001, (1 << 29) + 1, Integer.MIN_VALUE + 1, Integer.MAX_VALUE};
    private static final int[] NO_KINDS = {
        Integer.MIN_VALUE, -1, 8, 11, 13, 256, 261, Integer.MAX_VALUE};

    public static void main(String[] args) {
        promise1NewObject();
        promise2Make();
        promise3Put();
        promise3PutWrong();
        promise3PutFull();
        promise4KindAt();
        promise5NumberAt();
        promise6Border();
        promise6BorderOfOtherKinds();
        promise7Keys();
        promise8Fields();
        promise9Next();
        promise9NextInOldOrder();
        promise9NextWrong();
        promise10And11Cursor();
        promise12Fill();
        promise12FillWrong();
        promise12FillFull();
        promise13Clear();
        promise13ClearWrong();
        promise14Insert();
        promise14InsertJoins();
        promise14InsertNil();
        promise14InsertOrder();
        promise14InsertWrong();
        promise14InsertFull();
        promise15Remove();
        promise15RemoveWrong();
        promise16Reverse();
        promise17Same();
        promise18Copy();
        promise18CopyFull();
        promise19Empty();
        promise20All();
        Due.end();
    }

    private static FieldTables oneTable() {
        FieldTables x = new FieldTables();
        x.make();
        return x;
    }

    private static FieldTables twoTables() {
        FieldTables x = oneTable();
        x.make();
        return x;
    }

    /** Two tables with the keys 1 to 20000 each. */
    private static FieldTables fullTables() {
        FieldTables x = twoTables();
        x.fill(1, 1, 20000, 1);
        x.fill(2, 1, 20000, 1);
        return x;
    }

    private static void row(FieldTables x, String what, int table, long... want) {
        for (int i = 0; i < want.length; i++) {
            Due.is(what + ": numberAt " + (i + 1), x.numberAt(table, WHOLE, i + 1L), want[i]);
        }
        Due.is(what + ": border", x.border(table), want.length);
    }

    /** The keys with values in their order, each as its kind and its number. */
    private static void order(FieldTables x, String what, int table, long... want) {
        int answer = x.next(table, 0, 99L);
        for (int i = 0; i + 1 < want.length; i += 2) {
            Due.is(what + ": next to place " + i / 2, answer, 1);
            Due.is(what + ": kind at place " + i / 2, x.cursorKind(), want[i]);
            Due.is(what + ": number at place " + i / 2, x.cursorNumber(), want[i + 1]);
            answer = x.next(table, x.cursorKind(), x.cursorNumber());
        }
        Due.is(what + ": next behind the last", answer, 0);
    }

    private static void promise1NewObject() {
        FieldTables x = new FieldTables();
        Due.is("new: border(1)", x.border(1), BAD);
        Due.is("new: keys(0)", x.keys(0), BAD);
        Due.is("new: put", x.put(1, 3, 1, 3, 1), BAD);
        Due.is("new: all", x.all(), 0);
        Due.is("new: empty", x.empty(), 0);
        Due.is("new: cursorKind", x.cursorKind(), 0);
        Due.is("new: cursorNumber", x.cursorNumber(), 0);
        FieldTables y = oneTable();
        y.put(1, 3, 1, 3, 1);
        Due.is("new: objects share nothing", x.make(), 1);
        Due.is("new: objects share no keys", x.all(), 0);
    }

    private static void promise2Make() {
        FieldTables x = new FieldTables();
        for (int n = 1; n <= 30000; n++) {
            Due.is("make", x.make(), n);
        }
        Due.is("make: 30001st", x.make(), FULL);
        Due.is("make: the last is there", x.border(30000), 0);
        Due.is("make: none behind it", x.border(30001), BAD);
        Due.is("make: last table is used", x.put(30000, 7, 1, 3, 9), 1);
        Due.is("make: last table has it", x.numberAt(30000, 7, 1), 9);
        Due.is("make: the one before has not", x.numberAt(29999, 7, 1), 0);
    }

    private static void promise3Put() {
        FieldTables x = oneTable();
        Due.is("put: comes", x.put(1, 3, 5, 3, 50), 1);
        Due.is("put: changes", x.put(1, 3, 5, 4, 51), 0);
        Due.is("put: kind", x.kindAt(1, 3, 5), 4);
        Due.is("put: number", x.numberAt(1, 3, 5), 51);
        Due.is("put: nil", x.put(1, 3, 5, 0, 51), 0);
        Due.is("put: again, key is there", x.put(1, 3, 5, 1, 52), 0);
        Due.is("put: nil brings no key", x.put(1, 3, 6, 0, 1), 0);
        Due.is("put: keys", x.keys(1), 1);
        Due.is("put: comes only with a value", x.put(1, 3, 6, 1, 0), 1);
        for (int kind = 1; kind <= 7; kind++) {
            Due.is("put: other kind, other key", x.put(1, kind, 77, kind, -kind), 1);
        }
        for (int kind = 1; kind <= 7; kind++) {
            Due.is("put: kind by kind", x.kindAt(1, kind, 77), kind);
            Due.is("put: number by kind", x.numberAt(1, kind, 77), -kind);
        }
        long[] far = {Long.MIN_VALUE, Long.MAX_VALUE, 0L, -1L, 1L << 32, (1L << 32) + 77};
        for (long key : far) {
            Due.is("put: far key " + key, x.put(1, 3, key, 3, key), 1);
        }
        for (long key : far) {
            Due.is("put: far key is kept " + key, x.numberAt(1, 3, key), key);
        }
    }

    private static void promise3PutWrong() {
        FieldTables x = oneTable();
        for (int table : NO_TABLES) {
            Due.is("put: table " + table, x.put(table, 3, 1, 3, 1), BAD);
        }
        for (int kind : NO_KINDS) {
            Due.is("put: keyKind " + kind, x.put(1, kind, 1, 3, 1), BAD);
            Due.is("put: kind " + kind, x.put(1, 3, 1, kind, 1), BAD);
        }
        Due.is("put: keyKind 0", x.put(1, 0, 1, 3, 1), BAD);
        Due.is("put: keyKind 0 with nil", x.put(1, 0, 1, 0, 0), BAD);
        Due.is("put: nothing came", x.all(), 0);
    }

    private static void promise3PutFull() {
        FieldTables x = fullTables();
        Due.is("put: full", x.put(1, 4, 1, 3, 1), FULL);
        Due.is("put: full, nil", x.put(1, 4, 1, 0, 1), 0);
        Due.is("put: full, BAD first", x.put(1, 4, 1, 8, 1), BAD);
        Due.is("put: full, old key", x.put(1, 3, 1, 2, 8), 0);
        Due.is("put: full, old key's value", x.numberAt(1, 3, 1), 8);
        x.put(2, 3, 20000, 0, 0);
        Due.is("put: full, a nil field's key still counts", x.put(1, 4, 1, 3, 1), FULL);
        Due.is("put: full, that key again", x.put(2, 3, 20000, 1, 1), 0);
        Due.is("put: full, all", x.all(), 40000);
        FieldTables y = twoTables();
        y.fill(1, 1, 20000, 1);
        y.fill(2, 1, 19999, 1);
        Due.is("put: the 40000th", y.put(1, 1, 1, 1, 1), 1);
        Due.is("put: the 40001st", y.put(1, 1, 2, 1, 1), FULL);
    }

    private static void promise4KindAt() {
        FieldTables x = oneTable();
        x.put(1, 5, -4, 6, 0);
        Due.is("kindAt", x.kindAt(1, 5, -4), 6);
        Due.is("kindAt: never came", x.kindAt(1, 5, 4), 0);
        Due.is("kindAt: other kind", x.kindAt(1, 3, -4), 0);
        x.put(1, 5, -4, 0, 9);
        Due.is("kindAt: nil again", x.kindAt(1, 5, -4), 0);
        for (int table : NO_TABLES) {
            Due.is("kindAt: table " + table, x.kindAt(table, 5, -4), BAD);
        }
        for (int kind : NO_KINDS) {
            Due.is("kindAt: keyKind " + kind, x.kindAt(1, kind, -4), BAD);
        }
        Due.is("kindAt: keyKind 0", x.kindAt(1, 0, -4), BAD);
    }

    private static void promise5NumberAt() {
        FieldTables x = oneTable();
        x.put(1, 5, -4, 6, Long.MIN_VALUE);
        Due.is("numberAt", x.numberAt(1, 5, -4), Long.MIN_VALUE);
        Due.is("numberAt: never came", x.numberAt(1, 5, 4), 0);
        x.put(1, 5, -4, 0, 9);
        Due.is("numberAt: nil", x.numberAt(1, 5, -4), 0);
        x.put(1, 5, -4, 6, 7);
        for (int table : NO_TABLES) {
            Due.is("numberAt: table " + table, x.numberAt(table, 5, -4), 0);
        }
        for (int kind : NO_KINDS) {
            Due.is("numberAt: keyKind " + kind, x.numberAt(1, kind, -4), 0);
        }
        Due.is("numberAt: keyKind 0", x.numberAt(1, 0, -4), 0);
    }

    private static void promise6Border() {
        FieldTables x = oneTable();
        Due.is("border: at first", x.border(1), 0);
        x.put(1, 3, 2, 1, 1);
        x.put(1, 3, 3, 1, 1);
        Due.is("border: 1 is nil", x.border(1), 0);
        x.put(1, 3, 1, 1, 1);
        Due.is("border: joins", x.border(1), 3);
        x.put(1, 3, 5, 1, 1);
        x.put(1, 3, 5, 0, 0);
        Due.is("border: far away", x.border(1), 3);
        x.put(1, 3, 2, 0, 0);
        Due.is("border: the least", x.border(1), 1);
        x.put(1, 3, 3, 0, 0);
        x.put(1, 3, 2, 1, 1);
        Due.is("border: 3 went meanwhile", x.border(1), 2);
        x.put(1, 3, 1, 0, 0);
        Due.is("border: 0", x.border(1), 0);
        for (int table : NO_TABLES) {
            Due.is("border: table " + table, x.border(table), BAD);
        }
        FieldTables y = oneTable();
        y.fill(1, 1, 20000, 1);
        y.fill(1, 20001, 20000, 1);
        Due.is("border: all keys", y.border(1), 40000);
    }

    private static void promise6BorderOfOtherKinds() {
        FieldTables x = twoTables();
        x.put(1, 3, 0, 3, 1);
        x.put(1, 3, -1, 3, 1);
        for (int kind = 1; kind <= 7; kind++) {
            if (kind != WHOLE) {
                x.put(1, kind, 1, 3, 1);
            }
        }
        x.put(1, 3, (1L << 32) + 1, 3, 1);
        x.put(2, 3, 1, 3, 1);
        Due.is("border: other keys", x.border(1), 0);
        x.put(1, 3, 1, 7, 0);
        Due.is("border: values of any kind", x.border(1), 1);
        x.put(1, 2, 1, 0, 0);
        x.put(1, 3, (1L << 32) + 1, 0, 0);
        Due.is("border: others become nil", x.border(1), 1);
    }

    private static void promise7Keys() {
        FieldTables x = twoTables();
        x.put(1, 3, 1, 3, 1);
        x.put(1, 4, 1, 3, 1);
        x.put(1, 4, 1, 3, 2);
        x.put(1, 4, 2, 0, 2);
        Due.is("keys", x.keys(1), 2);
        x.put(1, 4, 1, 0, 0);
        Due.is("keys: nil fields too", x.keys(1), 2);
        Due.is("keys: of the other", x.keys(2), 0);
        Due.is("keys: table 3", x.keys(3), BAD);
        Due.is("keys: table 0", x.keys(0), BAD);
        Due.is("keys: table -1", x.keys(-1), BAD);
    }

    private static void promise8Fields() {
        FieldTables x = twoTables();
        x.put(1, 3, 1, 3, 1);
        x.put(1, 4, 1, 3, 1);
        x.put(1, 4, 1, 3, 2);
        Due.is("fields", x.fields(1), 2);
        x.put(1, 4, 1, 0, 0);
        x.put(1, 4, 1, 0, 0);
        Due.is("fields: nil", x.fields(1), 1);
        x.put(1, 4, 1, 1, 0);
        Due.is("fields: again", x.fields(1), 2);
        Due.is("fields: of the other", x.fields(2), 0);
        Due.is("fields: table 3", x.fields(3), BAD);
        Due.is("fields: table 0", x.fields(0), BAD);
        Due.is("fields: table -1", x.fields(-1), BAD);
    }

    private static void promise9Next() {
        FieldTables x = twoTables();
        Due.is("next: no keys", x.next(1, 0, 0), 0);
        x.put(1, 5, 9, 1, 1);
        x.put(2, 5, 8, 1, 1);
        x.put(1, 3, 1, 1, 1);
        x.put(1, 1, Long.MIN_VALUE, 1, 1);
        order(x, "next", 1, 5, 9, 3, 1, 1, Long.MIN_VALUE);
        order(x, "next: the other table", 2, 5, 8);
        x.put(1, 5, 9, 0, 0);
        order(x, "next: first is nil", 1, 3, 1, 1, Long.MIN_VALUE);
        x.put(1, 1, Long.MIN_VALUE, 0, 0);
        order(x, "next: last is nil", 1, 3, 1);
        Due.is("next: behind a nil field", x.next(1, 5, 9), 1);
        Due.is("next: behind a nil field, number", x.cursorNumber(), 1);
        x.put(1, 3, 1, 0, 0);
        Due.is("next: all are nil", x.next(1, 0, 0), 0);
        Due.is("next: all are nil, cursor", x.cursorKind(), 0);
    }

    private static void promise9NextInOldOrder() {
        FieldTables x = oneTable();
        x.put(1, 3, 2, 1, 1);
        x.put(1, 3, 1, 1, 1);
        x.put(1, 3, 3, 1, 1);
        x.put(1, 3, 2, 0, 0);
        x.put(1, 3, 4, 1, 1);
        x.put(1, 3, 2, 1, 1);
        order(x, "next: for ever", 1, 3, 2, 3, 1, 3, 3, 3, 4);
    }

    private static void promise9NextWrong() {
        FieldTables x = oneTable();
        x.put(1, 5, 9, 1, 1);
        x.next(1, 0, 0);
        for (int table : NO_TABLES) {
            Due.is("next: table " + table, x.next(table, 0, 0), BAD);
            Due.is("next: BAD before NO", x.next(table, 3, 77), BAD);
        }
        for (int kind : NO_KINDS) {
            Due.is("next: keyKind " + kind, x.next(1, kind, 9), BAD);
        }
        Due.is("next: no key", x.next(1, 5, 10), NO);
        Due.is("next: no key of that kind", x.next(1, 4, 9), NO);
        x.put(1, 5, 11, 0, 0);
        Due.is("next: nil brought no key", x.next(1, 5, 11), NO);
        Due.is("next: cursor stays, kind", x.cursorKind(), 5);
        Due.is("next: cursor stays, number", x.cursorNumber(), 9);
    }

    private static void promise10And11Cursor() {
        FieldTables x = oneTable();
        Due.is("cursor: kind at first", x.cursorKind(), 0);
        Due.is("cursor: number at first", x.cursorNumber(), 0);
        x.put(1, 6, -5, 2, 3);
        Due.is("cursor: put does not move it", x.cursorKind(), 0);
        x.next(1, 0, 0);
        Due.is("cursor: kind of the key", x.cursorKind(), 6);
        Due.is("cursor: number of the key", x.cursorNumber(), -5);
        x.put(1, 6, -5, 0, 0);
        Due.is("cursor: stays at a nil field", x.cursorKind(), 6);
        x.next(1, 6, -5);
        Due.is("cursor: kind is nil", x.cursorKind(), 0);
        Due.is("cursor: number of nil", x.cursorNumber(), 0);
    }

    private static void promise12Fill() {
        FieldTables x = oneTable();
        Due.is("fill", x.fill(1, 3, 4, 2), 4);
        order(x, "fill: order", 1, 3, 3, 3, 5, 3, 7, 3, 9);
        Due.is("fill: kind", x.kindAt(1, 3, 5), 3);
        Due.is("fill: value", x.numberAt(1, 3, 9), 4);
        Due.is("fill: between", x.kindAt(1, 3, 4), 0);
        Due.is("fill: some are there", x.fill(1, 1, 5, 1), 3);
        row(x, "fill: over others", 1, 1, 2, 3, 4, 5);
        x.clear(1, 1, 5, 1);
        Due.is("fill: nil fields' keys are there", x.fill(1, 1, 6, 1), 1);
        Due.is("fill: none", x.fill(1, 100, 0, 1), 0);
        Due.is("fill: none came", x.kindAt(1, 3, 100), 0);
        Due.is("fill: least from, widest step", x.fill(1, -1000000, 20000, 1000), 20000);
        Due.is("fill: last of them", x.numberAt(1, 3, 18999000), 20000);
        FieldTables y = oneTable();
        Due.is("fill: greatest from", y.fill(1, 1000000, 20000, 1000), 20000);
        Due.is("fill: last of those", y.numberAt(1, 3, 20999000), 20000);
        Due.is("fill: keys", y.keys(1), 20000);
    }

    private static void promise12FillWrong() {
        FieldTables x = oneTable();
        for (int table : NO_TABLES) {
            Due.is("fill: table " + table, x.fill(table, 1, 1, 1), BAD);
        }
        int[] counts = {Integer.MIN_VALUE, -1, 20001, Integer.MAX_VALUE};
        for (int n : counts) {
            Due.is("fill: n " + n, x.fill(1, 1, n, 1), BAD);
        }
        int[] steps = {Integer.MIN_VALUE, -1, 0, 1001, Integer.MAX_VALUE};
        for (int step : steps) {
            Due.is("fill: step " + step, x.fill(1, 1, 0, step), BAD);
        }
        long[] starts = {Long.MIN_VALUE, -1000001, 1000001, 1L << 32, Long.MAX_VALUE};
        for (long from : starts) {
            Due.is("fill: from " + from, x.fill(1, from, 0, 1), BAD);
        }
        Due.is("fill: nothing came", x.all(), 0);
    }

    private static void promise12FillFull() {
        FieldTables x = twoTables();
        x.fill(1, 1, 20000, 1);
        x.fill(2, 1, 19990, 1);
        Due.is("fill: one too many", x.fill(2, 19981, 21, 1), FULL);
        Due.is("fill: full changes nothing", x.numberAt(2, 3, 19981), 19981);
        Due.is("fill: full, all", x.all(), 39990);
        Due.is("fill: full, BAD first", x.fill(3, 1, 20000, 1), BAD);
        Due.is("fill: just as many", x.fill(2, 19981, 20, 1), 10);
        Due.is("fill: changed", x.numberAt(2, 3, 20000), 20);
        Due.is("fill: old keys when full", x.fill(1, 1, 10000, 2), 0);
        Due.is("fill: border", x.border(2), 20000);
    }

    private static void promise13Clear() {
        FieldTables x = oneTable();
        x.fill(1, 1, 10, 1);
        x.put(1, 4, 2, 1, 1);
        Due.is("clear", x.clear(1, 2, 3, 2), 3);
        Due.is("clear: border", x.border(1), 1);
        Due.is("clear: fields", x.fields(1), 8);
        Due.is("clear: keys", x.keys(1), 11);
        Due.is("clear: other kind stays", x.kindAt(1, 4, 2), 1);
        Due.is("clear: again", x.clear(1, 2, 3, 2), 0);
        Due.is("clear: brings no keys", x.clear(1, 5, 20000, 1000), 1);
        Due.is("clear: no keys came", x.all(), 11);
        Due.is("clear: none", x.clear(1, 1, 0, 1), 0);
        Due.is("clear: number", x.numberAt(1, 3, 2), 0);
        order(x, "clear: order", 1, 3, 1, 3, 3, 3, 7, 3, 8, 3, 9, 3, 10, 4, 2);
        FieldTables y = fullTables();
        Due.is("clear: when full", y.clear(1, 500000, 20000, 1000), 0);
        Due.is("clear: many", y.clear(1, 1, 20000, 1), 20000);
        Due.is("clear: of one table", y.fields(2), 20000);
    }

    private static void promise13ClearWrong() {
        FieldTables x = oneTable();
        x.fill(1, 1, 5, 1);
        for (int table : NO_TABLES) {
            Due.is("clear: table " + table, x.clear(table, 1, 1, 1), BAD);
        }
        Due.is("clear: n -1", x.clear(1, 1, -1, 1), BAD);
        Due.is("clear: n 20001", x.clear(1, 1, 20001, 1), BAD);
        Due.is("clear: step 0", x.clear(1, 1, 1, 0), BAD);
        Due.is("clear: step 1001", x.clear(1, 1, 1, 1001), BAD);
        Due.is("clear: from -1000001", x.clear(1, -1000001, 1, 1), BAD);
        Due.is("clear: from 1000001", x.clear(1, 1000001, 1, 1), BAD);
        Due.is("clear: nothing went", x.fields(1), 5);
    }

    private static void promise14Insert() {
        FieldTables x = oneTable();
        Due.is("insert: first", x.insert(1, 1, 3, 30), 1);
        Due.is("insert: behind", x.insert(1, 2, 3, 50), 2);
        Due.is("insert: between", x.insert(1, 2, 3, 40), 3);
        Due.is("insert: before", x.insert(1, 1, 6, 20), 4);
        row(x, "insert", 1, 20, 30, 40, 50);
        Due.is("insert: kind", x.kindAt(1, 3, 1), 6);
        Due.is("insert: kinds move", x.insert(1, 1, 3, 10), 5);
        Due.is("insert: kind moved", x.kindAt(1, 3, 2), 6);
        Due.is("insert: kind of the new one", x.kindAt(1, 3, 1), 3);
        Due.is("insert: fields", x.fields(1), 5);
        Due.is("insert: keys", x.keys(1), 5);
    }

    private static void promise14InsertJoins() {
        FieldTables x = oneTable();
        x.fill(1, 1, 3, 1);
        x.fill(1, 5, 2, 1);
        Due.is("insert: border joins what stood behind", x.insert(1, 2, 1, 9), 6);
        row(x, "insert: fields behind the gap stay", 1, 1, 9, 2, 3, 1, 2);
        FieldTables y = oneTable();
        y.fill(1, 2, 3, 1);
        Due.is("insert: at 1 with border 0", y.insert(1, 1, 1, 7), 4);
        row(y, "insert: nothing moved", 1, 7, 1, 2, 3);
    }

    private static void promise14InsertNil() {
        FieldTables x = oneTable();
        x.fill(1, 1, 3, 1);
        Due.is("insert: nil at the end", x.insert(1, 4, 0, 5), 3);
        Due.is("insert: nil at the end brings no key", x.keys(1), 3);
        Due.is("insert: nil between", x.insert(1, 2, 0, 5), 1);
        Due.is("insert: nil, keys", x.keys(1), 4);
        Due.is("insert: nil, fields", x.fields(1), 3);
        Due.is("insert: nil, number", x.numberAt(1, 3, 2), 0);
        Due.is("insert: nil, moved", x.numberAt(1, 3, 4), 3);
        Due.is("insert: into the gap", x.insert(1, 2, 3, 8), 4);
        row(x, "insert: into the gap", 1, 1, 8, 2, 3);
    }

    private static void promise14InsertOrder() {
        FieldTables x = oneTable();
        x.put(1, 3, 2, 1, 1);
        x.put(1, 3, 1, 1, 1);
        x.insert(1, 1, 3, 5);
        order(x, "insert: the border's key comes", 1, 3, 2, 3, 1, 3, 3);
    }

    private static void promise14InsertWrong() {
        FieldTables x = oneTable();
        x.fill(1, 1, 3, 1);
        for (int table : NO_TABLES) {
            Due.is("insert: table " + table, x.insert(table, 1, 3, 1), BAD);
        }
        int[] places = {Integer.MIN_VALUE, -1, 0, 5, Integer.MAX_VALUE};
        for (int i : places) {
            Due.is("insert: i " + i, x.insert(1, i, 3, 1), BAD);
        }
        for (int kind : NO_KINDS) {
            Due.is("insert: kind " + kind, x.insert(1, 1, kind, 1), BAD);
        }
        row(x, "insert: nothing moved", 1, 1, 2, 3);
    }

    private static void promise14InsertFull() {
        FieldTables x = fullTables();
        Due.is("insert: full", x.insert(1, 1, 3, 5), FULL);
        Due.is("insert: full, nil", x.insert(1, 20000, 0, 5), FULL);
        Due.is("insert: full, behind", x.insert(1, 20001, 3, 5), FULL);
        Due.is("insert: full, nil behind", x.insert(1, 20001, 0, 5), 20000);
        Due.is("insert: full, BAD first", x.insert(1, 20002, 3, 5), BAD);
        Due.is("insert: full, kind BAD first", x.insert(1, 1, 8, 5), BAD);
        Due.is("insert: full changes nothing", x.numberAt(1, 3, 1), 1);
        x.clear(1, 11, 1, 1);
        Due.is("insert: full, the place behind has a key", x.insert(1, 1, 3, 5), 20000);
        Due.is("insert: full, moved", x.numberAt(1, 3, 11), 10);
        x.clear(1, 1, 1, 1);
        Due.is("insert: full, at 1 with border 0", x.insert(1, 1, 3, 6), 20000);
        x.clear(1, 20000, 1, 1);
        Due.is("insert: full, the last place has a key", x.insert(1, 1, 3, 5), 20000);
        FieldTables y = twoTables();
        y.fill(1, 1, 20000, 1);
        y.fill(2, 1, 19998, 1);
        y.put(2, 3, 20000, 3, 7);
        y.put(2, 4, 1, 3, 7);
        Due.is("insert: full, only the place behind that has a key", y.insert(2, 1, 3, 5), FULL);
        Due.is("insert: full, behind, likewise", y.insert(2, 19999, 3, 5), FULL);
        Due.is("insert: full, border", y.border(2), 19998);
    }

    private static void promise15Remove() {
        FieldTables x = oneTable();
        x.fill(1, 1, 5, 1);
        x.put(1, 3, 2, 6, 22);
        x.put(1, 3, 7, 3, 70);
        Due.is("remove: first", x.remove(1, 1), 4);
        row(x, "remove: first", 1, 22, 3, 4, 5);
        Due.is("remove: kinds move", x.kindAt(1, 3, 1), 6);
        Due.is("remove: border's becomes nil", x.kindAt(1, 3, 5), 0);
        Due.is("remove: what stands behind stays", x.numberAt(1, 3, 7), 70);
        Due.is("remove: between", x.remove(1, 3), 3);
        row(x, "remove: between", 1, 22, 3, 5);
        Due.is("remove: last", x.remove(1, 3), 2);
        Due.is("remove: behind the border", x.remove(1, 3), 2);
        row(x, "remove: behind the border", 1, 22, 3);
        Due.is("remove: keys", x.keys(1), 6);
        Due.is("remove: fields", x.fields(1), 3);
        Due.is("remove: to 1", x.remove(1, 2), 1);
        Due.is("remove: to 0", x.remove(1, 1), 0);
        Due.is("remove: at 0", x.remove(1, 1), 0);
        Due.is("remove: far one stays", x.fields(1), 1);
    }

    private static void promise15RemoveWrong() {
        FieldTables x = oneTable();
        x.fill(1, 1, 3, 1);
        for (int table : NO_TABLES) {
            Due.is("remove: table " + table, x.remove(table, 1), BAD);
        }
        int[] places = {Integer.MIN_VALUE, -1, 0, 5, Integer.MAX_VALUE};
        for (int i : places) {
            Due.is("remove: i " + i, x.remove(1, i), BAD);
        }
        row(x, "remove: nothing moved", 1, 1, 2, 3);
    }

    private static void promise16Reverse() {
        FieldTables x = oneTable();
        Due.is("reverse: none", x.reverse(1), 0);
        x.fill(1, 1, 4, 1);
        x.put(1, 3, 1, 6, 11);
        x.put(1, 3, 6, 3, 60);
        Due.is("reverse: even", x.reverse(1), 4);
        row(x, "reverse: even", 1, 4, 3, 2, 11);
        Due.is("reverse: kinds turn", x.kindAt(1, 3, 4), 6);
        Due.is("reverse: kinds turn round", x.kindAt(1, 3, 1), 3);
        order(x, "reverse: order", 1, 3, 1, 3, 2, 3, 3, 3, 4, 3, 6);
        x.put(1, 3, 5, 3, 50);
        x.put(1, 3, 6, 0, 0);
        Due.is("reverse: odd", x.reverse(1), 5);
        row(x, "reverse: odd", 1, 50, 11, 2, 3, 4);
        for (int table : NO_TABLES) {
            Due.is("reverse: table " + table, x.reverse(table), BAD);
        }
    }

    private static void promise17Same() {
        FieldTables x = twoTables();
        Due.is("same: both empty", x.same(1, 2), 1);
        x.put(1, 3, 1, 3, 1);
        x.put(1, 4, 1, 3, 2);
        Due.is("same: one empty", x.same(1, 2), 0);
        Due.is("same: other empty", x.same(2, 1), 0);
        Due.is("same: itself", x.same(1, 1), 1);
        x.put(2, 4, 1, 3, 2);
        x.put(2, 3, 1, 3, 1);
        Due.is("same: other order", x.same(1, 2), 1);
        x.put(2, 5, 1, 3, 1);
        Due.is("same: one more", x.same(1, 2), 0);
        x.put(2, 5, 1, 0, 0);
        Due.is("same: nil fields do not count", x.same(1, 2), 1);
        Due.is("same: the other way", x.same(2, 1), 1);
        x.put(2, 4, 1, 3, 9);
        Due.is("same: other number of the later key", x.same(1, 2), 0);
        x.put(2, 4, 1, 3, 2);
        x.put(2, 3, 1, 3, 9);
        Due.is("same: other number", x.same(1, 2), 0);
        x.put(2, 3, 1, 2, 1);
        Due.is("same: other kind", x.same(1, 2), 0);
        x.put(2, 3, 1, 0, 1);
        x.put(2, 3, 2, 3, 1);
        Due.is("same: other key", x.same(1, 2), 0);
        for (int table : NO_TABLES) {
            int none = table == 2 ? 3 : table;
            Due.is("same: one " + none, x.same(none, 1), BAD);
            Due.is("same: other " + none, x.same(1, none), BAD);
        }
    }

    private static void promise18Copy() {
        FieldTables x = twoTables();
        x.put(1, 5, 3, 1, 10);
        x.put(1, 3, 2, 1, 20);
        x.put(1, 3, 1, 6, 30);
        x.put(1, 4, 4, 1, 40);
        x.put(1, 3, 2, 0, 0);
        x.put(2, 4, 4, 2, 2);
        x.put(2, 3, 2, 3, 3);
        Due.is("copy", x.copy(2, 1), 2);
        order(x, "copy: order", 2, 4, 4, 3, 2, 5, 3, 3, 1);
        Due.is("copy: value", x.numberAt(2, 4, 4), 40);
        Due.is("copy: kind", x.kindAt(2, 3, 1), 6);
        Due.is("copy: nil is not copied", x.numberAt(2, 3, 2), 3);
        Due.is("copy: border", x.border(2), 2);
        Due.is("copy: the second one stays", x.fields(1), 3);
        Due.is("copy: again", x.copy(2, 1), 0);
        Due.is("copy: itself", x.copy(1, 1), 0);
        Due.is("copy: itself, keys", x.keys(1), 4);
        for (int table : NO_TABLES) {
            int none = table == 2 ? 3 : table;
            Due.is("copy: to " + none, x.copy(none, 1), BAD);
            Due.is("copy: from " + none, x.copy(1, none), BAD);
        }
    }

    private static void promise18CopyFull() {
        FieldTables x = twoTables();
        x.make();
        x.fill(1, 1, 20000, 1);
        x.fill(2, 1, 19990, 1);
        x.clear(1, 12, 19989, 1);
        Due.is("copy: one too many", x.copy(3, 1), FULL);
        Due.is("copy: full changes nothing", x.keys(3), 0);
        x.clear(1, 11, 1, 1);
        Due.is("copy: just as many", x.copy(3, 1), 10);
        Due.is("copy: full", x.copy(3, 2), FULL);
        Due.is("copy: itself when full", x.copy(2, 2), 0);
        Due.is("copy: no key has to come", x.copy(1, 2), 0);
        Due.is("copy: BAD first", x.copy(4, 2), BAD);
        Due.is("copy: border", x.border(1), 19990);
    }

    private static void promise19Empty() {
        FieldTables x = twoTables();
        x.fill(1, 1, 200, 1);
        x.put(2, 5, 1, 1, 1);
        x.put(2, 5, 1, 0, 1);
        x.next(1, 0, 0);
        Due.is("empty", x.empty(), 201);
        Due.is("empty: cursorKind", x.cursorKind(), 0);
        Due.is("empty: cursorNumber", x.cursorNumber(), 0);
        Due.is("empty: all", x.all(), 0);
        Due.is("empty: tables", x.keys(1), BAD);
        Due.is("empty: again", x.empty(), 0);
        Due.is("empty: make", x.make(), 1);
        Due.is("empty: new table's keys", x.keys(1), 0);
        Due.is("empty: new table's fields", x.fields(1), 0);
        Due.is("empty: new table's border", x.border(1), 0);
        Due.is("empty: new table's field", x.kindAt(1, 3, 1), 0);
        Due.is("empty: new table's next", x.next(1, 0, 0), 0);
        Due.is("empty: keys come again", x.put(1, 3, 1, 3, 1), 1);
        Due.is("empty: fields count again", x.fields(1), 1);
        Due.is("empty: border counts again", x.border(1), 1);
        order(x, "empty: order", 1, 3, 1);
        x = fullTables();
        Due.is("empty: full", x.empty(), 40000);
        x.make();
        Due.is("empty: room again", x.fill(1, 1, 20000, 1), 20000);
        Due.is("empty: room again for all", x.fill(1, 20001, 20000, 1), 20000);
    }

    private static void promise20All() {
        FieldTables x = twoTables();
        Due.is("all: none", x.all(), 0);
        x.put(1, 3, 1, 3, 1);
        x.put(2, 3, 1, 3, 1);
        x.put(2, 3, 1, 3, 2);
        x.put(2, 3, 2, 0, 2);
        Due.is("all", x.all(), 2);
        x.put(2, 3, 1, 0, 0);
        Due.is("all: nil fields' keys too", x.all(), 2);
        x.insert(1, 1, 3, 1);
        Due.is("all: insert", x.all(), 3);
    }
}
