import java.util.ArrayList;
import java.util.List;

/** All that can be seen of an object by its answers. Looking moves the cursor and gives nil fields values. */
final class Seen {
    private static final long[] NUMBERS = {
        Long.MIN_VALUE, -1000001, -1000000, -2, -1, 0, 1, 2, 3, 4, 5, 6, 7, 8, 9, 10, 11, 12,
        19989, 19990, 19991, 19992, 19993, 19999, 20000, 20001, 20002, 39999, 40000, 40001,
        1000000, 1000001, 1L << 32, (1L << 32) + 1, Long.MAX_VALUE};

    private final FieldTables x;
    private final List<String> lines = new ArrayList<>();

    private Seen(FieldTables x) {
        this.x = x;
    }

    static List<String> of(FieldTables x) {
        Seen seen = new Seen(x);
        seen.look();
        return seen.lines;
    }

    /** The first line that differs, or an empty text. */
    static String difference(List<String> now, List<String> before) {
        for (int i = 0; i < Math.max(now.size(), before.size()); i++) {
            String is = i < now.size() ? now.get(i) : "nothing";
            String was = i < before.size() ? before.get(i) : "nothing";
            if (!is.equals(was)) {
                return is + ", was " + was;
            }
        }
        return "";
    }

    private void look() {
        // The cursor goes first: the walks along the keys move it.
        lines.add("cursor " + x.cursorKind() + " " + x.cursorNumber());
        lines.add("all " + x.all());
        int table = 1;
        for (; x.border(table) != FieldTables.BAD; table++) {
            lines.add("table " + table + ": border " + x.border(table) + ", keys " + x.keys(table)
                    + ", fields " + x.fields(table));
            if (x.keys(table) > 0) {
                walk(table);
                raiseNilFields(table);
                walk(table);
            }
        }
        lines.add("tables " + (table - 1) + ", made next " + x.make());
    }

    private void walk(int table) {
        int answer = x.next(table, 0, 0);
        while (answer == 1) {
            int kind = x.cursorKind();
            long number = x.cursorNumber();
            lines.add("field " + table + " " + kind + " " + number + ": "
                    + x.kindAt(table, kind, number) + " " + x.numberAt(table, kind, number));
            answer = x.next(table, kind, number);
        }
        lines.add("end of table " + table + ": " + answer + " " + x.cursorKind() + " " + x.cursorNumber());
    }

    /** Keys with nil fields show their places only when they have values. */
    private void raiseNilFields(int table) {
        for (int kind = 1; kind <= 7; kind++) {
            for (long number : NUMBERS) {
                if (x.next(table, kind, number) != FieldTables.NO && x.kindAt(table, kind, number) == 0) {
                    lines.add("nil field " + table + " " + kind + " " + number + ": "
                            + x.numberAt(table, kind, number) + " " + x.put(table, kind, number, 1, 1));
                }
            }
        }
    }
}
