import java.lang.reflect.InvocationTargetException;

/** The document's sections "What it is" and "Terms": a test for each sentence that names a boundary. */
public final class TermsTest {
    private static final int BAD = FieldTables.BAD;
    private static final int FULL = FieldTables.FULL;
    private static final int WHOLE = 3;

    public static void main(String[] args) throws IllegalAccessException, InvocationTargetException {
        Due.runAll(TermsTest.class);
        Due.end();
    }

    /** "any number of them in rows of the class's own that grow" */
    private static void tablesKeepWhatTheyHaveWhileTheirRowsGrow() {
        FieldTables x = new FieldTables();
        for (int table = 1; table <= 300; table++) {
            Due.is("grow: make", x.make(), table);
            Due.is("grow: put", x.put(table, 3, 1, 3, table), 1);
            Due.is("grow: put behind", x.put(table, 3, 2, 4, -table), 1);
            Due.is("grow: nil", x.put(table, 3, 2, 0, 0), 0);
        }
        for (int table = 1; table <= 300; table++) {
            Due.is("grow: value of " + table, x.numberAt(table, 3, 1), table);
            Due.is("grow: border of " + table, x.border(table), 1);
            Due.is("grow: keys of " + table, x.keys(table), 2);
            Due.is("grow: fields of " + table, x.fields(table), 1);
            Due.is("grow: next of " + table, x.next(table, 3, 1), 0);
        }
        Due.is("grow: none behind", x.border(301), BAD);
    }

    /** "any number of them in rows of the class's own that grow": key by key, over every growth. */
    private static void fieldsKeepTheirValuesWhileTheirRowsGrow() {
        FieldTables x = Made.oneTable();
        for (int key = 1; key <= 40000; key++) {
            Due.is("grow: key comes", x.put(1, 1 + key % 7, key, 1 + key % 5, -key), 1);
        }
        for (int key = 1; key <= 40000; key++) {
            Due.is("grow: kind of " + key, x.kindAt(1, 1 + key % 7, key), 1 + key % 5);
            Due.is("grow: number of " + key, x.numberAt(1, 1 + key % 7, key), -key);
        }
        int answer = x.next(1, 0, 0);
        for (int key = 1; key <= 40000; key++) {
            Due.is("grow: next", answer, 1);
            Due.is("grow: key in its place", x.cursorNumber(), key);
            answer = x.next(1, x.cursorKind(), key);
        }
        Due.is("grow: end", answer, 0);
    }

    /** "An object is used for at most 512 calls after it has been made" */
    private static void the512thCallIsStillAnswered() {
        FieldTables x = new FieldTables();
        for (int call = 1; call <= 511; call++) {
            Due.is("512 calls: make", x.make(), call);
        }
        Due.is("512 calls: the last one", x.make(), 512);
    }

    /** "TABLES are numbered 1, 2, .. as they are made" */
    private static void tablesAreNumberedFromOne() {
        FieldTables x = Made.none();
        Due.is("tables: 1 is not there yet", x.border(1), BAD);
        Due.is("tables: first", x.make(), 1);
        Due.is("tables: 1", x.border(1), 0);
        Due.is("tables: 0", x.border(0), BAD);
        Due.is("tables: -1", x.border(-1), BAD);
        Due.is("tables: 2 is not there yet", x.border(2), BAD);
        Due.is("tables: second", x.make(), 2);
        Due.is("tables: 2", x.border(2), 0);
        Due.is("tables: 3", x.border(3), BAD);
    }

    /** "TABLES .. 30000 at most" */
    private static void thereAre30000TablesAtMost() {
        FieldTables x = Made.tables(29999);
        Due.is("tables: 30000 is not there yet", x.border(30000), BAD);
        Due.is("tables: the 30000th", x.make(), 30000);
        Due.is("tables: 30000", x.border(30000), 0);
        Due.is("tables: the 30001st", x.make(), FULL);
        Due.is("tables: 30001", x.border(30001), BAD);
    }

    /** "A VALUE is a KIND, 0 .. 7" */
    private static void kindsAre0To7() {
        FieldTables x = Made.oneTable();
        Due.is("kinds: -1", x.put(1, 3, 1, -1, 1), BAD);
        Due.is("kinds: 8", x.put(1, 3, 1, 8, 1), BAD);
        for (int kind = 1; kind <= 7; kind++) {
            Due.is("kinds: " + kind, x.put(1, 3, kind, kind, kind), 1);
            Due.is("kinds: kept " + kind, x.kindAt(1, 3, kind), kind);
        }
        Due.is("kinds: 0", x.put(1, 3, 1, 0, 0), 0);
        Due.is("kinds: kept 0", x.kindAt(1, 3, 1), 0);
    }

    /** "and a NUMBER (64 bits)" */
    private static void numbersHave64Bits() {
        long[] numbers = {Long.MIN_VALUE, Long.MIN_VALUE + 1, -1L << 32, -1, 0, 1, 1L << 31, 1L << 32,
            (1L << 32) + 1, 1L << 62, Long.MAX_VALUE - 1, Long.MAX_VALUE};
        FieldTables x = Made.oneTable();
        for (long number : numbers) {
            Due.is("64 bits: key " + number + " comes", x.put(1, 6, number, 2, ~number), 1);
        }
        int answer = x.next(1, 0, 0);
        for (long number : numbers) {
            Due.is("64 bits: value of " + number, x.numberAt(1, 6, number), ~number);
            Due.is("64 bits: next", answer, 1);
            Due.is("64 bits: cursor", x.cursorNumber(), number);
            answer = x.next(1, 6, number);
        }
        Due.is("64 bits: end", answer, 0);
        Due.is("64 bits: insert the least", x.insert(1, 1, 3, Long.MIN_VALUE), 1);
        Due.is("64 bits: insert the greatest", x.insert(1, 1, 3, Long.MAX_VALUE), 2);
        Due.is("64 bits: least", x.numberAt(1, 3, 2), Long.MIN_VALUE);
        Due.is("64 bits: greatest", x.numberAt(1, 3, 1), Long.MAX_VALUE);
    }

    /** "kind 0 is NIL (its number does not count)" */
    private static void theNumberOfNilDoesNotCount() {
        FieldTables x = Made.tables(2);
        x.put(1, 3, 1, 3, 5);
        x.put(1, 3, 2, 3, 5);
        x.put(1, 3, 1, 0, 7);
        Due.is("nil: put", x.numberAt(1, 3, 1), 0);
        x.put(1, 3, 1, 3, 5);
        x.insert(1, 1, 0, 7);
        Due.is("nil: insert", x.numberAt(1, 3, 1), 0);
        x.copy(2, 1);
        x.put(2, 3, 1, 3, 5);
        x.put(2, 3, 1, 0, 8);
        Due.is("nil: same", x.same(1, 2), 1);
        Due.is("nil: next with a number", x.next(1, 0, 77), 1);
        Due.is("nil: next from the first key", x.cursorNumber(), 2);
    }

    /** "kind 3 a WHOLE number" */
    private static void wholeNumbersAreOfKind3() {
        for (int kind = 1; kind <= 7; kind++) {
            FieldTables x = Made.oneTable();
            x.put(1, kind, 1, kind, 1);
            Due.is("whole: border by kind " + kind, x.border(1), kind == WHOLE ? 1 : 0);
            Due.is("whole: clear by kind " + kind, x.clear(1, 1, 1, 1), kind == WHOLE ? 1 : 0);
        }
        FieldTables y = Made.oneTable();
        y.fill(1, 1, 1, 1);
        Due.is("whole: fill's key and value", y.kindAt(1, 3, 1), 3);
    }

    /** "A KEY is a value that is not nil." */
    private static void nilIsNoKey() {
        Refused.on("nil key", Made::some)
                .bad("put", x -> x.put(1, 0, 0, 3, 1))
                .bad("put nil", x -> x.put(1, 0, 0, 0, 0))
                .bad("kindAt", x -> x.kindAt(1, 0, 0))
                .is("numberAt", x -> x.numberAt(1, 0, 0), 0);
    }

    /** "Each table has for each key a FIELD, nil at first" */
    private static void fieldsAreNilAtFirst() {
        FieldTables x = Made.some();
        for (int kind = 1; kind <= 7; kind++) {
            long[] keys = {Long.MIN_VALUE, -1, 0, 1, Long.MAX_VALUE};
            for (long key : keys) {
                Due.is("nil at first: kind", x.kindAt(3, kind, key), 0);
                Due.is("nil at first: number", x.numberAt(3, kind, key), 0);
            }
        }
        Due.is("nil at first: fields", x.fields(3), 0);
        Due.is("nil at first: looking brings no key", x.keys(3), 0);
    }

    /** "two keys are the same when kind and number are" */
    private static void keysAreTheSameByKindAndNumber() {
        FieldTables x = Made.tables(2);
        Due.is("same keys: first", x.put(1, 3, 5, 1, 10), 1);
        Due.is("same keys: again", x.put(1, 3, 5, 1, 11), 0);
        Due.is("same keys: other kind", x.put(1, 4, 5, 1, 12), 1);
        Due.is("same keys: other number", x.put(1, 3, 6, 1, 13), 1);
        Due.is("same keys: other high bits", x.put(1, 3, 5 + (1L << 32), 1, 14), 1);
        Due.is("same keys: other sign", x.put(1, 3, -5, 1, 15), 1);
        Due.is("same keys: other table", x.put(2, 3, 5, 1, 16), 1);
        Due.is("same keys: value", x.numberAt(1, 3, 5), 11);
        Due.is("same keys: value of the other kind", x.numberAt(1, 4, 5), 12);
        Due.is("same keys: value of the other number", x.numberAt(1, 3, 6), 13);
        Due.is("same keys: value of the other high bits", x.numberAt(1, 3, 5 + (1L << 32)), 14);
        Due.is("same keys: value of the other sign", x.numberAt(1, 3, -5), 15);
        Due.is("same keys: value of the other table", x.numberAt(2, 3, 5), 16);
        Due.is("same keys: keys", x.keys(1), 5);
    }

    /** "When a field first gets a value that is not nil, its key COMES" */
    private static void aKeyComesWithItsFirstValueThatIsNotNil() {
        FieldTables x = Made.oneTable();
        Due.is("comes: nil", x.put(1, 3, 2, 0, 1), 0);
        Due.is("comes: not by nil", x.keys(1), 0);
        Due.is("comes: clear", x.clear(1, 1, 10, 1), 0);
        Due.is("comes: not by clear", x.keys(1), 0);
        Due.is("comes: insert nil", x.insert(1, 1, 0, 1), 0);
        Due.is("comes: not by insert of nil", x.keys(1), 0);
        Due.is("comes: remove", x.remove(1, 1), 0);
        Due.is("comes: not by remove", x.keys(1), 0);
        Due.is("comes: value", x.put(1, 3, 2, 1, 0), 1);
        Due.is("comes: by a value", x.keys(1), 1);
        x.put(1, 3, 2, 0, 0);
        Due.is("comes: only at first", x.put(1, 3, 2, 1, 0), 0);
        Due.is("comes: once", x.keys(1), 1);
    }

    /** "the table has it from then on, for ever, behind all that came before" */
    private static void aKeyKeepsItsPlaceForEver() {
        FieldTables x = Made.tables(2);
        x.put(1, 3, 3, 1, 1);
        x.put(1, 3, 1, 1, 1);
        x.put(1, 3, 2, 1, 1);
        places(x, "for ever", 3, 1, 2);
        x.put(1, 3, 3, 0, 0);
        x.put(1, 3, 4, 1, 1);
        x.put(1, 3, 3, 1, 1);
        places(x, "for ever: after nil by put", 3, 1, 2, 4);
        x.clear(1, 1, 10, 1);
        Due.is("for ever: keys", x.keys(1), 4);
        x.fill(1, 1, 5, 1);
        places(x, "for ever: after clear and fill", 3, 1, 2, 4, 5);
        x.remove(1, 1);
        x.insert(1, 1, 3, 7);
        x.reverse(1);
        places(x, "for ever: after remove, insert and reverse", 3, 1, 2, 4, 5);
        x.fill(2, 1, 6, 1);
        x.clear(1, 3, 1, 1);
        x.copy(1, 2);
        places(x, "for ever: after copy", 3, 1, 2, 4, 5, 6);
    }

    private static void places(FieldTables x, String what, long... keys) {
        int answer = x.next(1, 0, 0);
        for (long key : keys) {
            Due.is(what + ": next to " + key, answer, 1);
            Due.is(what + ": place of " + key, x.cursorNumber(), key);
            answer = x.next(1, 3, key);
        }
        Due.is(what + ": end", answer, 0);
    }

    /** "There are at most 40000 keys in all tables together.": in one table. */
    private static void thereAre40000KeysAtMostInOneTable() {
        FieldTables x = Made.oneTable();
        x.fill(1, 1, 20000, 1);
        x.fill(1, 20001, 19999, 1);
        Due.is("40000 keys: one less", x.all(), 39999);
        Due.is("40000 keys: the last one", x.put(1, 1, 0, 1, 1), 1);
        Due.is("40000 keys: all", x.all(), 40000);
        Due.is("40000 keys: one more", x.put(1, 1, 1, 1, 1), FULL);
        Due.is("40000 keys: still all", x.all(), 40000);
    }

    /** "There are at most 40000 keys in all tables together.": in many tables, with nil fields or not. */
    private static void thereAre40000KeysAtMostInAllTablesTogether() {
        FieldTables x = Made.tables(40);
        for (int table = 1; table <= 40; table++) {
            Due.is("40000 keys: fill", x.fill(table, 1, 1000, 1), 1000);
            x.clear(table, 1, 1000, 1);
        }
        for (int table = 1; table <= 40; table++) {
            Due.is("40000 keys: table " + table, x.put(table, 3, 1001, 3, 1), FULL);
        }
        Due.is("40000 keys: a new table", x.put(x.make(), 3, 1, 3, 1), FULL);
        Due.is("40000 keys: all", x.all(), 40000);
    }

    /** "THE BORDER of a table is the least n, 0 or more, for which the field of .. n + 1 is nil." */
    private static void theBorderIsTheLeast() {
        FieldTables x = Made.oneTable();
        x.fill(1, -3, 4, 1);
        Due.is("border: the numbers to 0 do not count", x.border(1), 0);
        x.fill(1, 1, 4, 1);
        x.fill(1, 6, 4, 1);
        Due.is("border: the first gap", x.border(1), 4);
        x.put(1, 3, 5, 1, 1);
        Due.is("border: gap closed", x.border(1), 9);
        x.put(1, 3, 3, 0, 0);
        x.put(1, 3, 7, 0, 0);
        Due.is("border: the least of two gaps", x.border(1), 2);
        x.put(1, 3, 3, 1, 1);
        Due.is("border: the other gap", x.border(1), 6);
        x.put(1, 3, 1, 0, 0);
        Due.is("border: none", x.border(1), 0);
    }

    /** "Of several codes the one named first is answered" */
    private static void badIsAnsweredBeforeFullAndNo() {
        Refused.on("codes", Made::full)
                .bad("put, table", x -> x.put(4, 1, 1, 1, 1))
                .bad("put, keyKind", x -> x.put(3, 8, 1, 1, 1))
                .bad("put, kind", x -> x.put(3, 1, 1, 8, 1))
                .bad("next, table", x -> x.next(4, 1, 1))
                .bad("next, keyKind", x -> x.next(3, 8, 1))
                .bad("fill, table", x -> x.fill(4, 1, 1, 1))
                .bad("fill, n", x -> x.fill(3, 1, 20001, 1))
                .bad("fill, step", x -> x.fill(3, 1, 1, 1001))
                .bad("fill, from", x -> x.fill(3, 1000001, 1, 1))
                .bad("insert, table", x -> x.insert(4, 1, 1, 1))
                .bad("insert, i", x -> x.insert(3, 2, 1, 1))
                .bad("insert, kind", x -> x.insert(3, 1, 8, 1))
                .bad("copy, to", x -> x.copy(4, 1))
                .bad("copy, from", x -> x.copy(3, 4));
    }

    /** "a call that answers one of these changes nothing": the cursor too, and one call after another. */
    private static void refusedCallsChangeNothingTogether() {
        FieldTables x = Made.full();
        x.put(1, 1, 1, 1, 1);
        x.put(4, 1, 1, 1, 1);
        x.next(1, 1, 1);
        x.next(1, 8, 1);
        x.fill(3, 1, 1, 1);
        x.fill(1, 1, 20000, 2);
        x.fill(1, 1, 20001, 1);
        x.clear(1, 1, 20001, 1);
        x.insert(1, 1, 3, 1);
        x.insert(1, 0, 3, 1);
        x.remove(1, 0);
        x.reverse(4);
        x.copy(3, 1);
        x.copy(1, 2);
        x.copy(4, 1);
        String difference = Seen.difference(Seen.of(x), Seen.of(Made.full()));
        Due.holds("refused calls change nothing (" + difference + ")", difference.isEmpty());
    }
}
