/** Objects to start from. A maker always makes the same object, so that two of them can be compared. */
final class Made {
    private Made() {
    }

    static FieldTables none() {
        return new FieldTables();
    }

    static FieldTables tables(int n) {
        FieldTables x = new FieldTables();
        for (int made = 0; made < n; made++) {
            x.make();
        }
        return x;
    }

    static FieldTables oneTable() {
        return tables(1);
    }

    /**
     * Three tables. The first has a row 1 to 5, a gap at 6 and 7 behind it, keys of other kinds, and
     * keys with nil fields; the second has other values for some of the same keys; the third is empty.
     * The cursor stands at a key.
     */
    static FieldTables some() {
        FieldTables x = tables(3);
        x.put(1, 5, 9, 2, -1);
        x.fill(1, 1, 5, 1);
        x.put(1, 3, 2, 6, 22);
        x.put(1, 3, 7, 3, 70);
        x.put(1, 4, 9, 1, 1);
        x.put(1, 4, 9, 0, 0);
        x.put(1, 7, Long.MIN_VALUE, 7, Long.MAX_VALUE);
        x.put(2, 3, 2, 1, 5);
        x.put(2, 5, 9, 4, 6);
        x.put(2, 1, -2, 4, 6);
        x.put(2, 3, 2, 0, 5);
        x.next(1, 3, 7);
        return x;
    }

    /** Keys of the whole numbers 1, 2, .. in the first table, 20000 at most, and in the second one. */
    static FieldTables keys(int inFirst, int inSecond) {
        FieldTables x = tables(3);
        x.fill(1, 1, inFirst, 1);
        x.fill(2, 1, inSecond, 1);
        return x;
    }

    /**
     * 40000 keys. The first table is a row of 20000; the second has a row of 19990, a gap at 19991, whose
     * key never came, 19992 behind it, eight keys of kind 4, and a key with a nil field; the third is
     * empty. The cursor stands at a key.
     */
    static FieldTables full() {
        FieldTables x = keys(20000, 19990);
        x.put(2, 3, 19992, 3, 92);
        for (int key = 1; key <= 8; key++) {
            x.put(2, 4, key, 5, key);
        }
        x.put(2, 7, -1, 1, 1);
        x.put(2, 7, -1, 0, 0);
        x.next(2, 4, 1);
        return x;
    }

    /** One table of the whole numbers 1 to 40000. */
    static FieldTables fullRow() {
        FieldTables x = oneTable();
        x.fill(1, 1, 20000, 1);
        x.fill(1, 20001, 20000, 1);
        return x;
    }

    /** As full(), but the place behind the first table's row has a key, with a nil field. */
    static FieldTables fullWithPlace() {
        FieldTables x = keys(20000, 20000);
        x.put(1, 3, 20000, 0, 0);
        x.next(1, 0, 0);
        return x;
    }

    /** 39990 keys; eleven fields of the first table are not nil, and the third table is empty. */
    static FieldTables elevenFieldsAndRoomFor10() {
        FieldTables x = keys(20000, 19990);
        x.clear(1, 12, 19989, 1);
        return x;
    }
}
