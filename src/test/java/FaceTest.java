import java.lang.reflect.Constructor;
import java.lang.reflect.Field;
import java.lang.reflect.Method;
import java.lang.reflect.Modifier;
import java.util.Set;
import java.util.TreeSet;

/** The public face is the document's, and no member beside it can be seen from outside. */
public final class FaceTest {
    private static final Set<String> FACE = Set.of(
            "public static final int BAD", "public static final int NO", "public static final int FULL",
            "public FieldTables()",
            "public int make()", "public int put(int,int,long,int,long)",
            "public int kindAt(int,int,long)", "public long numberAt(int,int,long)",
            "public int border(int)", "public int keys(int)", "public int fields(int)",
            "public int next(int,int,long)", "public int cursorKind()", "public long cursorNumber()",
            "public int fill(int,long,int,int)", "public int clear(int,long,int,int)",
            "public int insert(int,int,int,long)", "public int remove(int,int)",
            "public int reverse(int)", "public int same(int,int)", "public int copy(int,int)",
            "public int empty()", "public int all()");

    public static void main(String[] args) {
        Due.is("modifiers", FieldTables.class.getModifiers(), Modifier.PUBLIC | Modifier.FINAL);
        Set<String> seen = new TreeSet<>();
        Set<String> shown = new TreeSet<>();
        for (Field field : FieldTables.class.getDeclaredFields()) {
            note(seen, field.getModifiers(), field.toString());
        }
        for (Constructor<?> constructor : FieldTables.class.getDeclaredConstructors()) {
            note(seen, constructor.getModifiers(), constructor.toString());
        }
        for (Method method : FieldTables.class.getDeclaredMethods()) {
            note(seen, method.getModifiers(), method.toString());
            if (Modifier.isPublic(method.getModifiers())) {
                shown.add(method.getName());
            }
        }
        Due.holds("the face is the document's, not " + seen, seen.equals(FACE));
        hiddenNames(FieldTables.class, shown);
        for (Class<?> inside : FieldTables.class.getDeclaredClasses()) {
            Due.holds(inside + " is static", Modifier.isStatic(inside.getModifiers()));
            hiddenNames(inside, shown);
        }
        Due.is("BAD", FieldTables.BAD, -1);
        Due.is("NO", FieldTables.NO, -2);
        Due.is("FULL", FieldTables.FULL, -3);
        Due.end();
    }

    private static void note(Set<String> seen, int modifiers, String member) {
        if (!Modifier.isPrivate(modifiers)) {
            seen.add(member.replace("FieldTables.", ""));
        }
    }

    private static void hiddenNames(Class<?> where, Set<String> shown) {
        for (Method method : where.getDeclaredMethods()) {
            boolean hidden = !Modifier.isPublic(method.getModifiers());
            Due.holds(method + " bears no public name", !hidden || !shown.contains(method.getName()));
        }
    }
}
