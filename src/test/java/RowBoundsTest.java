import java.lang.reflect.InvocationTargetException;

/** Promises 12 to 20: a test for each sentence that names a boundary. */
public final class RowBoundsTest {
    private static final int BAD = FieldTables.BAD;
    private static final int FULL = FieldTables.FULL;
    private static final int[] NO_TABLES = {
        Integer.MIN_VALUE, -1, 0, 4, 30001, (1 << 29) + 1, Integer.MAX_VALUE};
    private static final int[] NO_KINDS = {Integer.MIN_VALUE, -1, 8, 256, 259, Integer.MAX_VALUE};

    public static void main(String[] args) throws IllegalAccessException, InvocationTargetException {
        Due.runAll(RowBoundsTest.class);
        Due.end();
    }

    /** The numbers of the fields 1, 2, .. and the border behind them. */
    private static void row(FieldTables x, String what, long... want) {
        for (int i = 1; i <= want.length; i++) {
            Due.is(what + ": number " + i, x.numberAt(1, 3, i), want[i - 1]);
        }
        Due.is(what + ": border", x.border(1), want.length);
    }

    /** "n whole numbers, from one on, each greater by a step, get fields with the whole numbers 1 to n" */
    private static void promise12FillFirstAndLast() {
        FieldTables x = Made.oneTable();
        Due.is("fill", x.fill(1, -7, 4, 5), 4);
        Due.is("fill: before", x.kindAt(1, 3, -12), 0);
        Due.is("fill: first", x.numberAt(1, 3, -7), 1);
        Due.is("fill: between", x.kindAt(1, 3, -6), 0);
        Due.is("fill: second", x.numberAt(1, 3, -2), 2);
        Due.is("fill: last", x.numberAt(1, 3, 8), 4);
        Due.is("fill: last's kind", x.kindAt(1, 3, 8), 3);
        Due.is("fill: behind", x.kindAt(1, 3, 13), 0);
        Due.is("fill: fields", x.fields(1), 4);
    }

    /** "how many keys come by that": not those that are there, with nil fields or not. */
    private static void promise12FillCountsKeysThatCome() {
        FieldTables x = Made.oneTable();
        x.fill(1, 1, 3, 1);
        x.put(1, 3, 2, 0, 0);
        Due.is("fill: none comes", x.fill(1, 1, 3, 1), 0);
        Due.is("fill: one comes", x.fill(1, 1, 4, 1), 1);
        Due.is("fill: all come", x.fill(1, 5, 4, 1), 4);
        Due.is("fill: other kinds do not count", x.put(1, 4, 9, 1, 1), 1);
        Due.is("fill: of one kind", x.fill(1, 9, 1, 1), 1);
    }

    /** "BAD when there is no such table" */
    private static void promise12FillBadTable() {
        Refused some = Refused.on("fill", Made::some);
        for (int t : NO_TABLES) {
            some.bad("table " + t, x -> x.fill(t, 1, 3, 1)).bad("none, table " + t, x -> x.fill(t, 1, 0, 1));
        }
        Due.is("fill: first table", Made.some().fill(1, 6, 1, 1), 1);
        Due.is("fill: last table", Made.some().fill(3, 6, 1, 1), 1);
    }

    /** "n is not 0 .. 20000" */
    private static void promise12FillLeastAndGreatestN() {
        Refused.on("fill", Made::some)
                .bad("n -1", x -> x.fill(1, 1, -1, 1))
                .bad("n 20001", x -> x.fill(1, 1, 20001, 1))
                .bad("n least", x -> x.fill(1, 1, Integer.MIN_VALUE, 1))
                .bad("n greatest", x -> x.fill(1, 1, Integer.MAX_VALUE, 1))
                .is("n 0", x -> x.fill(1, 1, 0, 1), 0);
        FieldTables x = Made.oneTable();
        Due.is("fill: n 1", x.fill(1, 1, 1, 1), 1);
        Due.is("fill: n 19999", x.fill(1, 1, 19999, 1), 19998);
        Due.is("fill: n 20000", x.fill(1, 1, 20000, 1), 1);
        Due.is("fill: last of 20000", x.numberAt(1, 3, 20000), 20000);
    }

    /** "step is not 1 .. 1000" */
    private static void promise12FillLeastAndGreatestStep() {
        Refused some = Refused.on("fill", Made::some);
        int[] steps = {Integer.MIN_VALUE, -1, 0, 1001, Integer.MAX_VALUE};
        for (int step : steps) {
            some.bad("step " + step, x -> x.fill(1, 1, 2, step)).bad("none, step " + step, x -> x.fill(1, 1, 0, step));
        }
        FieldTables x = Made.oneTable();
        Due.is("fill: step 1", x.fill(1, 1, 2, 1), 2);
        Due.is("fill: step 1, second", x.numberAt(1, 3, 2), 2);
        Due.is("fill: step 1000", x.fill(1, 1, 3, 1000), 2);
        Due.is("fill: step 1000, third", x.numberAt(1, 3, 2001), 3);
    }

    /** "from is not -1000000 .. 1000000" */
    private static void promise12FillLeastAndGreatestFrom() {
        Refused some = Refused.on("fill", Made::some);
        long[] starts = {Long.MIN_VALUE, -1000001, 1000001, 1L << 32, (1L << 32) + 1, Long.MAX_VALUE};
        for (long from : starts) {
            some.bad("from " + from, x -> x.fill(1, from, 2, 1)).bad("none, from " + from, x -> x.fill(1, from, 0, 1));
        }
        FieldTables x = Made.oneTable();
        Due.is("fill: from -1000000", x.fill(1, -1000000, 20000, 1000), 20000);
        Due.is("fill: from -1000000, first", x.numberAt(1, 3, -1000000), 1);
        Due.is("fill: from -1000000, last", x.numberAt(1, 3, 18999000), 20000);
        FieldTables y = Made.oneTable();
        Due.is("fill: from 1000000", y.fill(1, 1000000, 20000, 1000), 20000);
        Due.is("fill: from 1000000, first", y.numberAt(1, 3, 1000000), 1);
        Due.is("fill: from 1000000, last", y.numberAt(1, 3, 20999000), 20000);
    }

    /** "FULL": more keys would have to come than there is room for; the old fields keep their values too. */
    private static void promise12FillFull() {
        Refused.on("fill at 40000", Made::full)
                .full("one", x -> x.fill(3, 1, 1, 1))
                .full("last of many", x -> x.fill(1, 2, 20000, 1))
                .full("first of many", x -> x.fill(1, 0, 20000, 1))
                .full("between", x -> x.fill(2, 19989, 4, 1))
                .is("none", x -> x.fill(3, 1, 0, 1), 0);
        Refused.on("fill at 39990", () -> Made.keys(20000, 19990))
                .full("eleven, others before", x -> x.fill(2, 19981, 21, 1))
                .full("eleven", x -> x.fill(3, 1, 11, 1));
    }

    /** "FULL": just as many keys as there is room for may come, and any number of old ones. */
    private static void promise12FillJustNotFull() {
        FieldTables x = Made.keys(20000, 19990);
        Due.is("fill: as many as come", x.fill(2, 19981, 20, 1), 10);
        Due.is("fill: value of an old key", x.numberAt(2, 3, 19981), 1);
        Due.is("fill: value of the 40000th", x.numberAt(2, 3, 20000), 20);
        Due.is("fill: all", x.all(), 40000);
        Due.is("fill: old keys", x.fill(1, 2, 10000, 2), 0);
        Due.is("fill: value of an old key when full", x.numberAt(1, 3, 20000), 10000);
        x.clear(1, 1, 20000, 1);
        Due.is("fill: keys with nil fields", x.fill(1, 1, 20000, 1), 0);
        Due.is("fill: border", x.border(1), 20000);
        Due.is("fill: nil leaves no room", x.fill(1, 20001, 1, 1), FULL);
    }

    /** "n whole numbers likewise get nil fields: how many were not nil" */
    private static void promise13ClearFirstAndLast() {
        FieldTables x = Made.oneTable();
        x.fill(1, -20, 41, 1);
        Due.is("clear", x.clear(1, -7, 4, 5), 4);
        long[] cleared = {-7, -2, 3, 8};
        for (long key : cleared) {
            Due.is("clear: before " + key, x.kindAt(1, 3, key - 1), 3);
            Due.is("clear: " + key, x.kindAt(1, 3, key), 0);
            Due.is("clear: number of " + key, x.numberAt(1, 3, key), 0);
            Due.is("clear: behind " + key, x.kindAt(1, 3, key + 1), 3);
        }
        Due.is("clear: one step before", x.kindAt(1, 3, -12), 3);
        Due.is("clear: one step behind", x.kindAt(1, 3, 13), 3);
        Due.is("clear: those that were nil", x.clear(1, -8, 3, 1), 2);
        Due.is("clear: keys stay", x.keys(1), 41);
        Due.is("clear: border", x.border(1), 2);
    }

    /** "get nil fields": an absent key's field is nil already, and no key comes, nor is there a FULL. */
    private static void promise13ClearBringsNoKeys() {
        Refused.on("clear", Made::some)
                .is("absent keys", x -> x.clear(1, 100, 20000, 1000), 0)
                .is("an empty table", x -> x.clear(3, -100, 20000, 1), 0)
                .is("none", x -> x.clear(1, 1, 0, 1), 0)
                .is("a nil field", x -> x.clear(2, 2, 1, 1), 0);
        Refused.on("clear at 40000", Made::full).is("absent keys", x -> x.clear(3, 1, 20000, 1), 0);
        FieldTables x = Made.full();
        Due.is("clear: full", x.clear(1, 1, 20000, 1), 20000);
        Due.is("clear: full, border", x.border(1), 0);
        Due.is("clear: full, all", x.all(), 40000);
    }

    /** "BAD." of clear: "likewise" */
    private static void promise13ClearBad() {
        Refused some = Refused.on("clear", Made::some);
        for (int t : NO_TABLES) {
            some.bad("table " + t, x -> x.clear(t, 1, 3, 1)).bad("none, table " + t, x -> x.clear(t, 1, 0, 1));
        }
        int[] counts = {Integer.MIN_VALUE, -1, 20001, Integer.MAX_VALUE};
        for (int n : counts) {
            some.bad("n " + n, x -> x.clear(1, 1, n, 1));
        }
        int[] steps = {Integer.MIN_VALUE, -1, 0, 1001, Integer.MAX_VALUE};
        for (int step : steps) {
            some.bad("step " + step, x -> x.clear(1, 1, 2, step));
        }
        long[] starts = {Long.MIN_VALUE, -1000001, 1000001, 1L << 32, (1L << 32) + 1, Long.MAX_VALUE};
        for (long from : starts) {
            some.bad("from " + from, x -> x.clear(1, from, 2, 1));
        }
    }

    /** "likewise": the least and the greatest n, step and from. */
    private static void promise13ClearLeastAndGreatest() {
        FieldTables x = Made.tables(3);
        x.fill(1, -1000000, 20000, 1000);
        Due.is("clear: least from, greatest n and step", x.clear(1, -1000000, 20000, 1000), 20000);
        Due.is("clear: fields", x.fields(1), 0);
        x.fill(3, 1000000, 20000, 1);
        Due.is("clear: greatest from, n 1", x.clear(3, 1000000, 1, 1), 1);
        Due.is("clear: n 19999", x.clear(3, 1000000, 19999, 1), 19998);
        Due.is("clear: step 1000, one before the last", x.clear(3, 999999, 20, 1000), 0);
        Due.is("clear: step 1000, to the last", x.clear(3, 999999, 21, 1000), 1);
        Due.is("clear: n 20000, none left", x.clear(3, 1000000, 20000, 1), 0);
    }

    /** "The fields .. from i to the border come one place further up .. and field i gets a value" */
    private static void promise14InsertFromTheFirstToBehindTheBorder() {
        FieldTables x = Made.oneTable();
        Due.is("insert: i 1 of none", x.insert(1, 1, 3, 40), 1);
        row(x, "insert: i 1 of none", 40);
        Due.is("insert: i 1", x.insert(1, 1, 3, 10), 2);
        row(x, "insert: i 1", 10, 40);
        Due.is("insert: i the border", x.insert(1, 2, 3, 30), 3);
        row(x, "insert: i the border", 10, 30, 40);
        Due.is("insert: i the border and 1", x.insert(1, 4, 3, 50), 4);
        row(x, "insert: i the border and 1", 10, 30, 40, 50);
        Due.is("insert: between", x.insert(1, 2, 3, 20), 5);
        row(x, "insert: between", 10, 20, 30, 40, 50);
        Due.is("insert: keys", x.keys(1), 5);
    }

    /** "from i to the border": what stands beyond the border stays, and may join. */
    private static void promise14InsertLeavesWhatStandsBehind() {
        FieldTables x = Made.some();
        Due.is("insert: joins", x.insert(1, 3, 4, 33), 7);
        row(x, "insert: joins", 1, 22, 33, 3, 4, 5, 70);
        Due.is("insert: kind", x.kindAt(1, 3, 3), 4);
        FieldTables y = Made.some();
        Due.is("insert: behind, joins", y.insert(1, 6, 4, 66), 7);
        row(y, "insert: behind, joins", 1, 22, 3, 4, 5, 66, 70);
        FieldTables z = Made.oneTable();
        z.fill(1, -2, 3, 1);
        z.fill(1, 2, 1, 1);
        Due.is("insert: border 0, joins", z.insert(1, 1, 3, 9), 2);
        row(z, "insert: border 0, joins", 9, 1);
        Due.is("insert: 0 stays", z.numberAt(1, 3, 0), 3);
    }

    /** "the border then": with a nil value, i becomes the gap. */
    private static void promise14InsertNil() {
        FieldTables x = Made.oneTable();
        x.fill(1, 1, 3, 1);
        Due.is("insert: nil at 1", x.insert(1, 1, 0, 9), 0);
        Due.is("insert: nil at 1, moved", x.numberAt(1, 3, 4), 3);
        Due.is("insert: nil at 1, keys", x.keys(1), 4);
        x.put(1, 3, 1, 3, 9);
        Due.is("insert: nil at the border", x.insert(1, 4, 0, 9), 3);
        Due.is("insert: nil at the border, moved", x.numberAt(1, 3, 5), 3);
        Refused.on("insert of nil", Made::some)
                .is("behind the border", y -> y.insert(1, 6, 0, 9), 5)
                .is("empty table", y -> y.insert(3, 1, 0, 9), 0)
                .is("a key with a nil field before it", y -> y.insert(2, 1, 0, 9), 0);
    }

    /** "BAD when there is no such table" */
    private static void promise14InsertBadTable() {
        Refused some = Refused.on("insert", Made::some);
        for (int t : NO_TABLES) {
            some.bad("table " + t, x -> x.insert(t, 1, 3, 1)).bad("nil, table " + t, x -> x.insert(t, 1, 0, 1));
        }
        Due.is("insert: last table", Made.some().insert(3, 1, 3, 1), 1);
    }

    /** "i is not 1 to the border and 1" */
    private static void promise14InsertBadPlace() {
        Refused some = Refused.on("insert", Made::some);
        int[] places = {Integer.MIN_VALUE, -1, 0, 7, 8, Integer.MAX_VALUE};
        for (int i : places) {
            some.bad("i " + i, x -> x.insert(1, i, 3, 1)).bad("nil, i " + i, x -> x.insert(1, i, 0, 1));
        }
        some.bad("i 0 of none", x -> x.insert(3, 0, 3, 1)).bad("i 2 of none", x -> x.insert(3, 2, 3, 1));
        Due.is("insert: i 1", Made.some().insert(1, 1, 3, 1), 7);
        Due.is("insert: i 6", Made.some().insert(1, 6, 3, 1), 7);
    }

    /** "or kind is not 0 .. 7" */
    private static void promise14InsertBadKind() {
        Refused some = Refused.on("insert", Made::some);
        for (int kind : NO_KINDS) {
            some.bad("kind " + kind, x -> x.insert(1, 1, kind, 1))
                    .bad("behind, kind " + kind, x -> x.insert(1, 6, kind, 1));
        }
        for (int kind = 1; kind <= 7; kind++) {
            FieldTables x = Made.some();
            Due.is("insert: kind " + kind, x.insert(1, 1, kind, 1), 7);
            Due.is("insert: kind kept " + kind, x.kindAt(1, 3, 1), kind);
        }
        Due.is("insert: kind 0", Made.some().insert(1, 1, 0, 1), 0);
    }

    /** "FULL when a key would have to come (behind the border, when i is not above it ..)" */
    private static void promise14InsertFullBehindTheBorder() {
        Refused.on("insert at 40000", Made::full)
                .full("i 1", x -> x.insert(1, 1, 3, 1))
                .full("i the border", x -> x.insert(1, 20000, 3, 1))
                .full("i 1, nil", x -> x.insert(1, 1, 0, 1))
                .full("i the border, nil", x -> x.insert(1, 20000, 0, 1))
                .full("before a gap, i 1", x -> x.insert(2, 1, 3, 1))
                .full("before a gap, i the border", x -> x.insert(2, 19990, 3, 1));
        Refused.on("insert in a row of 40000", Made::fullRow)
                .full("i 1", x -> x.insert(1, 1, 3, 1))
                .full("i 40000", x -> x.insert(1, 40000, 3, 1));
    }

    /** "FULL when a key would have to come (.. else that of i, when kind is not 0)" */
    private static void promise14InsertFullAtI() {
        Refused.on("insert at 40000", Made::full)
                .full("i the border and 1", x -> x.insert(1, 20001, 3, 1))
                .full("at a gap", x -> x.insert(2, 19991, 3, 1))
                .full("empty table", x -> x.insert(3, 1, 3, 1))
                .is("i the border and 1, nil", x -> x.insert(1, 20001, 0, 1), 20000)
                .is("at a gap, nil", x -> x.insert(2, 19991, 0, 1), 19990)
                .is("empty table, nil", x -> x.insert(3, 1, 0, 1), 0);
        Refused.on("insert in a row of 40000", Made::fullRow)
                .full("i 40001", x -> x.insert(1, 40001, 3, 1))
                .is("i 40001, nil", x -> x.insert(1, 40001, 0, 1), 40000)
                .bad("i 40002", x -> x.insert(1, 40002, 3, 1));
    }

    /** "FULL when a key would have to come": the key behind the border is there, with a nil field. */
    private static void promise14InsertNotFullWithAKeyThere() {
        FieldTables x = Made.fullWithPlace();
        Due.is("insert: i 1", x.insert(1, 1, 3, 7), 20000);
        Due.is("insert: i 1, first", x.numberAt(1, 3, 1), 7);
        Due.is("insert: i 1, last", x.numberAt(1, 3, 20000), 19999);
        x = Made.fullWithPlace();
        Due.is("insert: i the border", x.insert(1, 19999, 3, 7), 20000);
        Due.is("insert: i the border, last", x.numberAt(1, 3, 20000), 19999);
        x = Made.fullWithPlace();
        Due.is("insert: i 1, nil", x.insert(1, 1, 0, 7), 0);
        Due.is("insert: i 1, nil, last", x.numberAt(1, 3, 20000), 19999);
        x = Made.fullWithPlace();
        Due.is("insert: i the border and 1", x.insert(1, 20000, 3, 7), 20000);
        Due.is("insert: i the border and 1, last", x.numberAt(1, 3, 20000), 7);
        Due.is("insert: all", x.all(), 40000);
    }

    /** "and there are 40000": 39999 are not. */
    private static void promise14InsertJustNotFull() {
        FieldTables x = Made.keys(20000, 19999);
        Due.is("insert: the 40000th moves up", x.insert(1, 1, 3, 7), 20001);
        Due.is("insert: the 40001st", x.insert(1, 1, 3, 7), FULL);
        Due.is("insert: all", x.all(), 40000);
        x = Made.keys(20000, 19999);
        Due.is("insert: the 40000th behind", x.insert(1, 20001, 3, 7), 20001);
        Due.is("insert: the 40001st behind", x.insert(1, 20002, 3, 7), FULL);
    }

    /** "The fields .. behind i, up to the border, come one place further down, and the border's becomes nil" */
    private static void promise15RemoveFromTheFirstToTheBorder() {
        FieldTables x = Made.some();
        Due.is("remove: i 1", x.remove(1, 1), 4);
        row(x, "remove: i 1", 22, 3, 4, 5);
        Due.is("remove: kind comes down", x.kindAt(1, 3, 1), 6);
        Due.is("remove: kind stays not", x.kindAt(1, 3, 2), 3);
        Due.is("remove: border's kind", x.kindAt(1, 3, 5), 0);
        Due.is("remove: border's number", x.numberAt(1, 3, 5), 0);
        Due.is("remove: behind the border", x.numberAt(1, 3, 7), 70);
        Due.is("remove: i the border", x.remove(1, 4), 3);
        row(x, "remove: i the border", 22, 3, 4);
        Due.is("remove: between", x.remove(1, 2), 2);
        row(x, "remove: between", 22, 4);
        Due.is("remove: of two", x.remove(1, 1), 1);
        Due.is("remove: of one", x.remove(1, 1), 0);
        row(x, "remove: of one");
        Due.is("remove: keys stay", x.keys(1), 9);
        FieldTables y = Made.fullRow();
        Due.is("remove: of 40000", y.remove(1, 1), 39999);
        Due.is("remove: last of 40000", y.numberAt(1, 3, 39999), 20000);
        Due.is("remove: keys of 40000", y.keys(1), 40000);
        Due.is("remove: insert has its place again", y.insert(1, 1, 3, 1), 40000);
    }

    /** "(i the border and 1: that field becomes nil, which it is)" */
    private static void promise15RemoveBehindTheBorder() {
        Refused.on("remove", Made::some)
                .is("behind the border", x -> x.remove(1, 6), 5)
                .is("behind the border, a key is there", x -> x.remove(2, 1), 0)
                .is("of none", x -> x.remove(3, 1), 0);
        Refused.on("remove", Made::full).is("behind 20000", x -> x.remove(1, 20001), 20000);
        Refused.on("remove", Made::fullRow).is("behind 40000", x -> x.remove(1, 40001), 40000);
    }

    /** "BAD when there is no such table, or i is not 1 to the border and 1." */
    private static void promise15RemoveBad() {
        Refused some = Refused.on("remove", Made::some);
        for (int t : NO_TABLES) {
            some.bad("table " + t, x -> x.remove(t, 1));
        }
        int[] places = {Integer.MIN_VALUE, -1, 0, 7, 8, Integer.MAX_VALUE};
        for (int i : places) {
            some.bad("i " + i, x -> x.remove(1, i));
        }
        some.bad("i 0 of none", x -> x.remove(3, 0)).bad("i 2 of none", x -> x.remove(3, 2));
        Refused.on("remove", Made::fullRow).bad("i 40002", x -> x.remove(1, 40002));
    }

    /** "The values of the fields 1 to the border are turned round: the border." */
    private static void promise16ReverseFromNoneToAll() {
        Refused.on("reverse", Made::some)
                .is("none", x -> x.reverse(3), 0)
                .is("none before a key", x -> x.reverse(2), 0)
                .is("twice", x -> x.reverse(1) == 5 ? x.reverse(1) : -9, 5);
        FieldTables x = Made.oneTable();
        x.put(1, 3, 1, 4, 10);
        x.put(1, 3, 3, 4, 30);
        Due.is("reverse: one", x.reverse(1), 1);
        row(x, "reverse: one", 10);
        x.put(1, 3, 3, 0, 0);
        x.put(1, 3, 2, 5, 20);
        x.put(1, 3, 0, 5, -1);
        Due.is("reverse: two", x.reverse(1), 2);
        row(x, "reverse: two", 20, 10);
        Due.is("reverse: kind of the first", x.kindAt(1, 3, 1), 5);
        Due.is("reverse: kind of the second", x.kindAt(1, 3, 2), 4);
        Due.is("reverse: 0 stays", x.numberAt(1, 3, 0), -1);
        x.put(1, 3, 3, 6, 30);
        x.put(1, 3, 5, 6, 50);
        Due.is("reverse: three", x.reverse(1), 3);
        row(x, "reverse: three", 30, 10, 20);
        Due.is("reverse: behind the border stays", x.numberAt(1, 3, 5), 50);
        FieldTables y = Made.fullRow();
        Due.is("reverse: 40000", y.reverse(1), 40000);
        Due.is("reverse: first of 40000", y.numberAt(1, 3, 1), 20000);
        Due.is("reverse: middle of 40000", y.numberAt(1, 3, 20000), 1);
        Due.is("reverse: behind the middle", y.numberAt(1, 3, 20001), 20000);
        Due.is("reverse: last of 40000", y.numberAt(1, 3, 40000), 1);
    }

    /** "BAD." of reverse */
    private static void promise16ReverseBad() {
        Refused some = Refused.on("reverse", Made::some);
        for (int t : NO_TABLES) {
            some.bad("table " + t, x -> x.reverse(t));
        }
    }

    /** "Whether two tables have the same fields that are not nil: 1 or 0" */
    private static void promise17SameFields() {
        FieldTables x = Made.tables(3);
        Due.is("same: both empty", x.same(1, 2), 1);
        x.fill(1, 1, 3, 1);
        Due.is("same: one empty", x.same(1, 2), 0);
        Due.is("same: other empty", x.same(2, 1), 0);
        x.fill(2, 1, 2, 1);
        Due.is("same: one less", x.same(1, 2), 0);
        Due.is("same: one more", x.same(2, 1), 0);
        x.put(2, 3, 3, 3, 4);
        Due.is("same: other number", x.same(1, 2), 0);
        x.put(2, 3, 3, 4, 3);
        Due.is("same: other kind", x.same(1, 2), 0);
        x.put(2, 3, 3, 0, 3);
        x.put(2, 4, 3, 3, 3);
        Due.is("same: other kind of key", x.same(1, 2), 0);
        x.put(2, 4, 3, 0, 3);
        x.put(2, 3, 3, 3, 3);
        Due.is("same: again", x.same(1, 2), 1);
        x.clear(1, 1, 3, 1);
        Due.is("same: nil fields and an empty table", x.same(1, 3), 1);
        Due.is("same: an empty table and nil fields", x.same(3, 1), 1);
        Due.is("same: itself", x.same(2, 2), 1);
        Due.is("same: 40000 fields and themselves", Made.fullRow().same(1, 1), 1);
    }

    /** "(the order of keys does not matter)" */
    private static void promise17SameInAnyOrder() {
        FieldTables x = Made.tables(2);
        x.fill(1, 1, 20000, 1);
        for (int key = 20000; key >= 1; key--) {
            x.put(2, 3, key, 3, key);
        }
        Due.is("same: turned round", x.same(1, 2), 1);
        x.put(2, 3, 20000, 3, 1);
        Due.is("same: one differs", x.same(1, 2), 0);
        Due.is("same: one differs, the other way", x.same(2, 1), 0);
    }

    /** "BAD." of same: for either table. */
    private static void promise17SameBad() {
        Refused some = Refused.on("same", Made::some);
        for (int t : NO_TABLES) {
            some.bad("one " + t, x -> x.same(t, 1))
                    .bad("other " + t, x -> x.same(1, t))
                    .bad("both " + t, x -> x.same(t, t));
        }
        some.is("first and last", x -> x.same(1, 3), 0).is("last and first", x -> x.same(3, 1), 0);
    }

    /** "gets all fields of the second one that are not nil, in their order: how many keys come" */
    private static void promise18CopyNoneSomeAndAll() {
        Refused.on("copy", Made::some)
                .is("of an empty table", x -> x.copy(1, 3), 0)
                .is("to itself", x -> x.copy(1, 1), 0)
                .is("of an empty table to itself", x -> x.copy(3, 3), 0);
        FieldTables x = Made.some();
        Due.is("copy: to an empty table", x.copy(3, 1), 8);
        Due.is("copy: nil fields' keys do not come", x.keys(3), 8);
        Due.is("copy: same", x.same(1, 3), 1);
        Due.is("copy: some keys are there", x.copy(2, 1), 6);
        Due.is("copy: a key with a nil field gets a value", x.numberAt(2, 3, 2), 22);
        Due.is("copy: a value is changed", x.numberAt(2, 5, 9), -1);
        Due.is("copy: another stays", x.numberAt(2, 1, -2), 6);
        Due.is("copy: the border", x.border(2), 5);
        Due.is("copy: none comes", x.copy(2, 3), 0);
    }

    /** "in their order" */
    private static void promise18CopyInOrder() {
        FieldTables x = Made.tables(2);
        long[] keys = {5, -3, 4, 0, 1};
        for (long key : keys) {
            x.put(1, 3, key, 1, key);
        }
        x.put(1, 3, 4, 0, 0);
        x.put(1, 3, 5, 1, 6);
        x.copy(2, 1);
        long[] copied = {5, -3, 0, 1};
        int answer = x.next(2, 0, 0);
        for (long key : copied) {
            Due.is("copy: next", answer, 1);
            Due.is("copy: place of " + key, x.cursorNumber(), key);
            answer = x.next(2, 3, key);
        }
        Due.is("copy: end", answer, 0);
    }

    /** "BAD" of copy: for either table. */
    private static void promise18CopyBad() {
        Refused some = Refused.on("copy", Made::some);
        for (int t : NO_TABLES) {
            some.bad("to " + t, x -> x.copy(t, 1))
                    .bad("from " + t, x -> x.copy(1, t))
                    .bad("both " + t, x -> x.copy(t, t));
        }
    }

    /** "FULL." of copy: more keys would have to come than there is room for. */
    private static void promise18CopyFull() {
        Refused.on("copy at 40000", Made::full)
                .full("to an empty table", x -> x.copy(3, 1))
                .full("some keys are there", x -> x.copy(1, 2))
                .full("the other way", x -> x.copy(2, 1))
                .is("of an empty table", x -> x.copy(1, 3), 0)
                .is("to itself", x -> x.copy(1, 1), 0);
        Refused.on("copy with room for 10", Made::elevenFieldsAndRoomFor10)
                .full("eleven", x -> x.copy(3, 1));
    }

    /** "FULL." of copy: just as many keys as there is room for may come; nil fields' keys need none. */
    private static void promise18CopyJustNotFull() {
        FieldTables x = Made.elevenFieldsAndRoomFor10();
        x.put(1, 3, 1, 0, 0);
        Due.is("copy: ten", x.copy(3, 1), 10);
        Due.is("copy: all", x.all(), 40000);
        Due.is("copy: last", x.numberAt(3, 3, 11), 11);
        Due.is("copy: again when full", x.copy(3, 1), 0);
        Due.is("copy: old keys when full", x.copy(1, 2), 0);
        Due.is("copy: their border", x.border(1), 19990);
        x = Made.elevenFieldsAndRoomFor10();
        x.put(3, 3, 5, 1, 1);
        Due.is("copy: eleven, one of them there, room for 9", x.copy(3, 1), FULL);
        x = Made.keys(20000, 19989);
        x.clear(1, 12, 19989, 1);
        x.put(3, 3, 5, 1, 1);
        x.put(3, 3, 5, 0, 1);
        Due.is("copy: eleven, one of them there, room for 10", x.copy(3, 1), 10);
        Due.is("copy: the one that was there", x.numberAt(3, 3, 5), 5);
    }

    /** "All tables and keys go, as if there had been none; the cursor is nil: how many keys there were." */
    private static void promise19EmptyIsAsNew() {
        Due.is("empty: none", Made.none().empty(), 0);
        Due.is("empty: tables without keys", Made.tables(3).empty(), 0);
        Due.is("empty: some, nil fields' keys too", Made.some().empty(), 12);
        Due.is("empty: full", Made.full().empty(), 40000);
        Refused.on("as new", Made::none)
                .is("empty of a new object", x -> x.empty(), 0)
                .is("empty of tables", x -> x.make() + x.make() + x.empty(), 3)
                .is("empty of keys", x -> x.make() + x.fill(1, 1, 300, 1) + x.next(1, 0, 0) + x.empty(), 602)
                .is("empty twice", x -> x.make() + x.fill(1, 1, 9, 1) + x.empty() + x.empty(), 19);
    }

    /** "as if there had been none": tables are numbered from 1 again, and hold nothing of the old ones. */
    private static void promise19EmptyThenTablesAgain() {
        FieldTables x = Made.some();
        x.empty();
        for (int table = 0; table <= 4; table++) {
            Due.is("empty: table " + table, x.keys(table), BAD);
        }
        x.make();
        x.make();
        x.make();
        String difference = Seen.difference(Seen.of(x), Seen.of(Made.tables(3)));
        Due.holds("empty: tables are new (" + difference + ")", difference.isEmpty());
    }

    /** "as if there had been none": fewer keys than before have none of the old ones behind them. */
    private static void promise19EmptyThenFewerKeys() {
        FieldTables x = Made.full();
        x.empty();
        FieldTables y = Made.none();
        Due.is("empty: two tables again", x.make() + x.make(), y.make() + y.make());
        for (int key = 1; key <= 5; key++) {
            Due.is("empty: key comes again", x.put(1 + key % 2, 3, key, 3, key), y.put(1 + key % 2, 3, key, 3, key));
        }
        String difference = Seen.difference(Seen.of(x), Seen.of(y));
        Due.holds("empty: few keys are as on a new object (" + difference + ")", difference.isEmpty());
    }

    /** "All .. keys go": there is room for 40000 again, and no more. */
    private static void promise19EmptyThenFullAgain() {
        FieldTables x = Made.full();
        x.empty();
        x.make();
        Due.is("empty: fill", x.fill(1, 1, 20000, 1), 20000);
        Due.is("empty: fill more", x.fill(1, 20001, 20000, 1), 20000);
        Due.is("empty: full", x.put(1, 1, 1, 1, 1), FULL);
        String difference = Seen.difference(Seen.of(x), Seen.of(Made.fullRow()));
        Due.holds("empty: the row is as on a new object (" + difference + ")", difference.isEmpty());
    }

    /** "How many keys there are in all tables." */
    private static void promise20AllFromNoneToFull() {
        Due.is("all: none", Made.none().all(), 0);
        Due.is("all: tables without keys", Made.tables(3).all(), 0);
        Due.is("all: some, nil fields' keys too", Made.some().all(), 12);
        Due.is("all: 39999", Made.keys(20000, 19999).all(), 39999);
        Due.is("all: 40000", Made.full().all(), 40000);
        FieldTables x = Made.some();
        Due.is("all: the sum", x.keys(1) + x.keys(2) + x.keys(3), x.all());
        x.empty();
        Due.is("all: after empty", x.all(), 0);
    }
}
