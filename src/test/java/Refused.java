import java.util.List;
import java.util.function.Supplier;
import java.util.function.ToLongFunction;

/** Calls that are refused, each on a new object: it answers its code, and nothing has changed. */
final class Refused {
    private final String name;
    private final Supplier<FieldTables> maker;
    private final List<String> before;

    private Refused(String name, Supplier<FieldTables> maker) {
        this.name = name;
        this.maker = maker;
        this.before = Seen.of(maker.get());
    }

    static Refused on(String name, Supplier<FieldTables> maker) {
        return new Refused(name, maker);
    }

    /** A call that answers this, and changes nothing. */
    Refused is(String what, ToLongFunction<FieldTables> call, long answer) {
        FieldTables x = maker.get();
        Due.is(name + ": " + what, call.applyAsLong(x), answer);
        String difference = Seen.difference(Seen.of(x), before);
        Due.holds(name + ": " + what + " changes nothing (" + difference + ")", difference.isEmpty());
        return this;
    }

    Refused bad(String what, ToLongFunction<FieldTables> call) {
        return is(what, call, FieldTables.BAD);
    }

    Refused full(String what, ToLongFunction<FieldTables> call) {
        return is(what, call, FieldTables.FULL);
    }

    Refused no(String what, ToLongFunction<FieldTables> call) {
        return is(what, call, FieldTables.NO);
    }
}
