import java.lang.reflect.Constructor;
import java.lang.reflect.Field;
import java.lang.reflect.Method;
import java.lang.reflect.Modifier;
import java.util.ArrayList;
import java.util.List;
import java.util.Set;
import java.util.TreeSet;

/** The public face is the document's, and nothing else of the class can be seen from outside. */
public final class FaceTest {
    private static final Set<String> METHODS = Set.of(
        "sign(int)", "read()", "place()", "steps()", "exponent(int,int)", "key(int,int)", "compare(int,int)",
        "reduce(int)", "order(int)", "gap(int,int)", "gaps()", "chain(int,int,int,int,int,int,int)",
        "degree(int,int)", "prime(int,int)", "makes(int,int)", "tempers(int)", "term(int,int)");
    private static final Set<String> CONSTANTS = Set.of("NONE", "UNKNOWN", "OUTSIDE", "STATE", "ROOM", "WIDE");
    private static final Check CHECK = new Check();

    public static void main(String[] args) {
        Class<?> face = TuningTables.class;
        CHECK.holds("public and final", Modifier.isPublic(face.getModifiers()) && Modifier.isFinal(face.getModifiers()));
        checkMethods(face);
        checkFields(face);
        Constructor<?>[] constructors = face.getDeclaredConstructors();
        CHECK.holds("one constructor, public, without parameters", constructors.length == 1
            && Modifier.isPublic(constructors[0].getModifiers()) && constructors[0].getParameterCount() == 0);
        for (Class<?> inside : face.getDeclaredClasses()) {
            CHECK.holds(inside + " is static", Modifier.isStatic(inside.getModifiers()));
            CHECK.holds(inside + " is not seen", !Modifier.isPublic(inside.getModifiers()) && !Modifier.isProtected(inside.getModifiers()));
            checkStatics(inside);
        }
        checkStatics(face);
        CHECK.end();
    }

    private static void checkMethods(Class<?> face) {
        Set<String> seen = new TreeSet<>();
        Set<String> publicNames = new TreeSet<>();
        List<String> privateNames = new ArrayList<>();
        for (Method method : face.getDeclaredMethods()) {
            if (Modifier.isPrivate(method.getModifiers())) {
                privateNames.add(method.getName());
                continue;
            }
            String form = method.toString();
            seen.add(form.substring(form.indexOf("TuningTables.") + 13));
            publicNames.add(method.getName());
            CHECK.holds(form + " is public and answers an int", Modifier.isPublic(method.getModifiers())
                && !Modifier.isStatic(method.getModifiers()) && method.getReturnType() == int.class);
        }
        CHECK.holds("the methods: " + seen, seen.equals(new TreeSet<>(METHODS)));
        privateNames.retainAll(publicNames);
        CHECK.holds("no private method with a public one's name: " + privateNames, privateNames.isEmpty());
    }

    private static void checkFields(Class<?> face) {
        Set<String> seen = new TreeSet<>();
        for (Field field : face.getDeclaredFields()) {
            if (!Modifier.isPrivate(field.getModifiers())) {
                seen.add(field.getName());
                CHECK.holds(field + " is a constant", field.toString().startsWith("public static final int "));
            }
        }
        CHECK.holds("the constants: " + seen, seen.equals(new TreeSet<>(CONSTANTS)));
    }

    private static void checkStatics(Class<?> type) {
        for (Field field : type.getDeclaredFields()) {
            CHECK.holds(field + " is final if static", !Modifier.isStatic(field.getModifiers()) || Modifier.isFinal(field.getModifiers()));
        }
    }
}
