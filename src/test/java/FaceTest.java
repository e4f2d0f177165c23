import java.lang.reflect.Constructor;
import java.lang.reflect.Field;
import java.lang.reflect.Method;
import java.lang.reflect.Modifier;
import java.util.Arrays;
import java.util.List;
import java.util.TreeSet;

/** The public face is the document's, and the class holds no static state. */
public final class FaceTest {
    private static final String METHODS = "alter(int,int) compact() copy(int,int,int) decode() fill(int,int) free(int)"
        + " octet(int) place() read(int) run(int,int,int) slot(int,int) stored(int) trim(int) type(int,int) write(int)";
    private static final List<String> CONSTANTS = List.of("NONE", "UNKNOWN", "OUTSIDE", "ROOM");
    private static final Due T = new Due("FaceTest");

    private FaceTest() {
    }

    public static void main(String[] args) {
        T.due("NONE", PackedSlots.NONE, -1);
        T.due("UNKNOWN", PackedSlots.UNKNOWN, -11);
        T.due("OUTSIDE", PackedSlots.OUTSIDE, -12);
        T.due("ROOM", PackedSlots.ROOM, -14);
        int modifiers = PackedSlots.class.getModifiers();
        T.holds("the class is public and final", Modifier.isPublic(modifiers) && Modifier.isFinal(modifiers));
        methods();
        constructors();
        fields();
        for (Class<?> inside : PackedSlots.class.getDeclaredClasses()) {
            T.holds(inside + " is static and not public",
                Modifier.isStatic(inside.getModifiers()) && !Modifier.isPublic(inside.getModifiers()));
            noStaticState(inside);
        }
        T.end();
    }

    private static void methods() {
        TreeSet<String> seen = new TreeSet<>();
        TreeSet<String> publicNames = new TreeSet<>();
        for (String method : METHODS.split(" ")) {
            publicNames.add(method.substring(0, method.indexOf('(')));
        }
        for (Method m : PackedSlots.class.getDeclaredMethods()) {
            if (Modifier.isPrivate(m.getModifiers())) {
                T.holds(m + " bears no public name", !publicNames.contains(m.getName()));
            } else {
                seen.add(m.getName() + parameters(m.getParameterTypes()));
                T.holds(m + " is public, not static and answers an int",
                    Modifier.isPublic(m.getModifiers()) && !Modifier.isStatic(m.getModifiers())
                        && m.getReturnType() == int.class && m.getExceptionTypes().length == 0);
            }
        }
        T.holds("the methods are the document's: " + seen, String.join(" ", seen).equals(METHODS));
    }

    private static String parameters(Class<?>[] types) {
        return Arrays.toString(types).replace(" ", "").replace('[', '(').replace(']', ')');
    }

    private static void constructors() {
        Constructor<?>[] all = PackedSlots.class.getDeclaredConstructors();
        T.due("constructors", all.length, 1);
        T.holds("it is public and takes an int", Modifier.isPublic(all[0].getModifiers())
            && parameters(all[0].getParameterTypes()).equals("(int)"));
    }

    private static void fields() {
        for (Field f : PackedSlots.class.getDeclaredFields()) {
            T.holds(f + " is private or a constant of the document",
                Modifier.isPrivate(f.getModifiers()) != CONSTANTS.contains(f.getName()));
        }
        noStaticState(PackedSlots.class);
    }

    private static void noStaticState(Class<?> of) {
        for (Field f : of.getDeclaredFields()) {
            if (Modifier.isStatic(f.getModifiers())) {
                T.holds(f + " is a constant number", Modifier.isFinal(f.getModifiers()) && f.getType() == int.class);
            }
        }
    }
}
