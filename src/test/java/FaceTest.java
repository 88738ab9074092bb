import java.lang.reflect.Constructor;
import java.lang.reflect.Field;
import java.lang.reflect.Method;
import java.lang.reflect.Modifier;
import java.util.Set;
import java.util.TreeSet;

/** The public face is the document's, and nothing else can be seen from outside (LANGUAGE.md, rule 1). */
public final class FaceTest {
    private static final String NO_SUCH = "java.util.NoSuchElementException";
    private static final String ARGUMENT = "java.lang.IllegalArgumentException";
    private static final String STATE = "java.lang.IllegalStateException";

    private static final Set<String> FACE = Set.of(
        face("int width(int,int)", NO_SUCH, ARGUMENT),
        face("int put(int,int,int)", NO_SUCH, ARGUMENT, STATE),
        face("int count(int,int)", NO_SUCH, ARGUMENT),
        face("int at(int,int)", NO_SUCH),
        face("int join(int,int,int,int)", NO_SUCH, ARGUMENT, STATE),
        face("int narrow(int,int,int)", NO_SUCH, ARGUMENT),
        face("int pick(int,int,int,int)", NO_SUCH, ARGUMENT),
        face("int alter(int,int,int,int)", NO_SUCH, ARGUMENT, STATE),
        face("int reach(int,int)", NO_SUCH, ARGUMENT),
        face("int turn(int,int)", NO_SUCH),
        face("long about(int,int)", NO_SUCH, ARGUMENT),
        face("boolean same(int,int)", NO_SUCH));

    private static final Checks checks = new Checks();

    public static void main(String[] args) {
        checks.topic("face");
        int kind = TupleShelf.class.getModifiers();
        checks.due("public and final", true, Modifier.isPublic(kind) && Modifier.isFinal(kind));
        methods();
        for (Field f : TupleShelf.class.getDeclaredFields()) {
            checks.due(f + " is private", true, Modifier.isPrivate(f.getModifiers()));
            checks.due(f + " is no static state", true,
                !Modifier.isStatic(f.getModifiers()) || Modifier.isFinal(f.getModifiers()));
        }
        Constructor<?>[] made = TupleShelf.class.getDeclaredConstructors();
        checks.due("constructors", 1, made.length);
        checks.due("public TupleShelf()", true,
            Modifier.isPublic(made[0].getModifiers()) && made[0].getParameterCount() == 0);
        for (Class<?> c : TupleShelf.class.getDeclaredClasses()) {
            int m = c.getModifiers();
            checks.due(c + " is static and not public", true,
                Modifier.isStatic(m) && !Modifier.isPublic(m) && !Modifier.isProtected(m));
        }
        checks.finish();
    }

    private static void methods() {
        Set<String> names = new TreeSet<>();
        for (Method m : TupleShelf.class.getDeclaredMethods()) {
            if (Modifier.isPublic(m.getModifiers())) {
                checks.due(m + " is in the document", true, FACE.contains(m.toGenericString()));
                names.add(m.getName());
            }
        }
        checks.due("methods", FACE.size(), names.size());
        for (Method m : TupleShelf.class.getDeclaredMethods()) {
            if (!Modifier.isPublic(m.getModifiers())) {
                checks.due(m + " is private", true, Modifier.isPrivate(m.getModifiers()));
                checks.due(m + " has a name of its own", false, names.contains(m.getName()));
            }
        }
    }

    private static String face(String method, String... thrown) {
        String dotted = method.replaceFirst(" ", " TupleShelf.");
        return "public " + dotted + " throws " + String.join(",", thrown);
    }
}
