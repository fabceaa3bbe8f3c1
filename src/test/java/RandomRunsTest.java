import java.util.Random;

/** Runs of 512 calls, drawn from fixed seeds, compared call by call with PlainTables. */
public final class RandomRunsTest {
    private static final int CALLS = 512;
    private static final int SMALL_RUNS = 600;
    private static final int LARGE_RUNS = 5;
    private static final long[] FAR = {
        Long.MIN_VALUE, Long.MAX_VALUE, Integer.MIN_VALUE, Integer.MAX_VALUE, 1L << 32, (1L << 32) + 1, -1000001};

    private final Random random;
    private final boolean large;
    private FieldTables real = new FieldTables();
    private PlainTables plain = new PlainTables();
    private String call = "";

    private RandomRunsTest(long seed, boolean large) {
        this.random = new Random(seed);
        this.large = large;
    }

    public static void main(String[] args) {
        for (int seed = 0; seed < SMALL_RUNS; seed++) {
            new RandomRunsTest(seed, false).run("small run " + seed);
        }
        for (int seed = 0; seed < LARGE_RUNS; seed++) {
            new RandomRunsTest(seed, true).run("large run " + seed);
        }
        Due.end();
    }

    private void run(String name) {
        for (int n = 0; n < CALLS; n++) {
            long[] answers = answersOf(n < 2 ? 0 : random.nextInt(40));
            Due.is(name + ", call " + n + " " + call, answers[0], answers[1]);
            compareSums(name + ", after call " + n + " " + call);
        }
        for (int table = 1; table <= plain.count(); table++) {
            compareOrder(name + ", at the end, table " + table, table);
        }
    }

    /** What the class and the plain tables answer to one call. */
    private long[] answersOf(int choice) {
        int t = table();
        switch (choice) {
            case 0: return answers("make", real.make(), plain.make());
            case 1: return random.nextInt(20) > 0
                    ? answers("all", real.all(), plain.all())
                    : answers("empty", real.empty(), plain.empty());
            case 2: return answers("cursorKind", real.cursorKind(), plain.cursorKind());
            case 3: return answers("cursorNumber", real.cursorNumber(), plain.cursorNumber());
            case 4: return answers("border " + t, real.border(t), plain.border(t));
            case 5: return answers("keys " + t, real.keys(t), plain.keys(t));
            case 6: return answers("fields " + t, real.fields(t), plain.fields(t));
            case 7: case 8: return reverse(t);
            case 9: case 10: case 11: return remove(t);
            case 12: case 13: case 14: case 15: case 16: return insert(t);
            case 17: case 18: return copy(t);
            case 19: case 20: return same(t);
            case 21: case 22: return clear(t);
            case 23: case 24: return fill(t);
            case 25: case 26: case 27: case 28: return next(t);
            case 29: case 30: return look(t);
            default: return put(t);
        }
    }

    private long[] answers(String what, long got, long want) {
        call = what;
        return new long[] {got, want};
    }

    private long[] put(int t) {
        int keyKind = keyKind();
        long key = key();
        int kind = kind();
        long number = number();
        return answers("put " + t + " " + keyKind + " " + key + " " + kind + " " + number,
                real.put(t, keyKind, key, kind, number), plain.put(t, keyKind, key, kind, number));
    }

    private long[] look(int t) {
        int keyKind = keyKind();
        long key = key();
        String what = t + " " + keyKind + " " + key;
        return random.nextBoolean()
                ? answers("kindAt " + what, real.kindAt(t, keyKind, key), plain.kindAt(t, keyKind, key))
                : answers("numberAt " + what, real.numberAt(t, keyKind, key), plain.numberAt(t, keyKind, key));
    }

    private long[] next(int t) {
        boolean onward = random.nextBoolean();
        int keyKind = onward ? plain.cursorKind() : keyKind();
        long key = onward ? plain.cursorNumber() : key();
        return answers("next " + t + " " + keyKind + " " + key,
                real.next(t, keyKind, key), plain.next(t, keyKind, key));
    }

    private long[] fill(int t) {
        long from = from();
        int n = length();
        int step = step();
        return answers("fill " + t + " " + from + " " + n + " " + step,
                real.fill(t, from, n, step), plain.fill(t, from, n, step));
    }

    private long[] clear(int t) {
        long from = from();
        int n = length();
        int step = step();
        return answers("clear " + t + " " + from + " " + n + " " + step,
                real.clear(t, from, n, step), plain.clear(t, from, n, step));
    }

    private long[] insert(int t) {
        int i = place(t);
        int kind = kind();
        long number = number();
        return answers("insert " + t + " " + i + " " + kind + " " + number,
                real.insert(t, i, kind, number), plain.insert(t, i, kind, number));
    }

    private long[] remove(int t) {
        int i = place(t);
        return answers("remove " + t + " " + i, real.remove(t, i), plain.remove(t, i));
    }

    private long[] reverse(int t) {
        return answers("reverse " + t, real.reverse(t), plain.reverse(t));
    }

    private long[] copy(int t) {
        int from = table();
        return answers("copy " + t + " " + from, real.copy(t, from), plain.copy(t, from));
    }

    private long[] same(int t) {
        int other = table();
        return answers("same " + t + " " + other, real.same(t, other), plain.same(t, other));
    }

    private boolean rarely() {
        return random.nextInt(40) == 0;
    }

    private int table() {
        return rarely() ? random.nextInt() : random.nextInt(Math.min(plain.count(), 4) + 1) + (rarely() ? 0 : 1);
    }

    private int keyKind() {
        return rarely() ? random.nextInt(12) - 2 : random.nextInt(3) > 0 ? 3 : 1 + random.nextInt(7);
    }

    private int kind() {
        return rarely() ? random.nextInt(12) - 2 : random.nextInt(4) == 0 ? 0 : 1 + random.nextInt(7);
    }

    private long key() {
        return rarely() ? FAR[random.nextInt(FAR.length)] : random.nextInt(14) - 2;
    }

    private long number() {
        return rarely() ? random.nextLong() : random.nextInt(3);
    }

    private long from() {
        return rarely() ? FAR[random.nextInt(FAR.length)] : random.nextInt(large ? 9000 : 14) - 2;
    }

    private int length() {
        return rarely() ? random.nextInt() : random.nextInt(large ? 20001 : 12);
    }

    private int step() {
        return rarely() ? random.nextInt(1003) - 1 : 1 + random.nextInt(3);
    }

    private int place(int t) {
        return rarely() ? random.nextInt() : random.nextInt(Math.max(plain.border(t), 0) + 2) + (rarely() ? 0 : 1);
    }

    private void compareSums(String name) {
        Due.is(name + ": all", real.all(), plain.all());
        for (int table = 0; table <= Math.min(plain.count(), 6); table++) {
            Due.is(name + ": border " + table, real.border(table), plain.border(table));
            Due.is(name + ": keys " + table, real.keys(table), plain.keys(table));
            Due.is(name + ": fields " + table, real.fields(table), plain.fields(table));
        }
    }

    /** Every value, and the whole order of the keys; each gets a value first, so that next stops there. */
    private void compareOrder(String name, int table) {
        for (PlainTables.Value key : plain.keyOrder(table)) {
            Due.is(name + ": kindAt", real.kindAt(table, key.kind(), key.number()),
                    plain.kindAt(table, key.kind(), key.number()));
            Due.is(name + ": numberAt", real.numberAt(table, key.kind(), key.number()),
                    plain.numberAt(table, key.kind(), key.number()));
        }
        int keyKind = 0;
        long number = 0;
        for (PlainTables.Value key : plain.keyOrder(table)) {
            real.put(table, key.kind(), key.number(), 1, 1);
            Due.is(name + ": next", real.next(table, keyKind, number), 1);
            Due.is(name + ": next's kind", real.cursorKind(), key.kind());
            Due.is(name + ": next's number", real.cursorNumber(), key.number());
            keyKind = key.kind();
            number = key.number();
        }
        Due.is(name + ": next at the end", real.next(table, keyKind, number), 0);
    }
}
