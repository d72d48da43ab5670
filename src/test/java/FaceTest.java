import java.lang.reflect.Constructor;
import java.lang.reflect.Field;
import java.lang.reflect.Method;
import java.lang.reflect.Modifier;
import java.util.Arrays;
import java.util.TreeSet;

/** The class has the document's face and no other member that is not private. */
public final class FaceTest {
    private static final String ARGUMENT = " throws IllegalArgumentException";
    private static final String BOTH = ARGUMENT + " IllegalStateException";

    private static final String[] FACE = {
        "public static final int NONE",
        "public static final int OUTSIDE",
        "public RoomHours()",
        "public int room(int int)" + BOTH,
        "public int wall(int int int)" + BOTH,
        "public int leads(int int)" + BOTH,
        "public int window(int int int int)" + BOTH,
        "public int outside(int int)" + ARGUMENT,
        "public int sun(int int int)" + ARGUMENT,
        "public int plan(int int int int)" + ARGUMENT,
        "public int most(int int int)" + ARGUMENT,
        "public void ease(int int)" + ARGUMENT,
        "public int run(int)" + BOTH,
        "public long told(int int)" + ARGUMENT,
        "public long balance(int)" + ARGUMENT,
        "public int early(int int int)" + ARGUMENT,
        "public int strong(int int)" + ARGUMENT,
    };

    public static void main(String[] args) {
        TreeSet<String> found = new TreeSet<>();
        for (Field f : RoomHours.class.getDeclaredFields()) {
            add(found, f.getModifiers(), " " + f.getType() + " " + f.getName());
        }
        for (Constructor<?> c : RoomHours.class.getDeclaredConstructors()) {
            add(found, c.getModifiers(), " RoomHours(" + names(c.getParameterTypes()) + ")");
        }
        for (Method m : RoomHours.class.getDeclaredMethods()) {
            String throwing = m.getExceptionTypes().length == 0 ? "" : " throws " + names(m.getExceptionTypes());
            add(found, m.getModifiers(), " " + m.getReturnType() + " " + m.getName()
                + "(" + names(m.getParameterTypes()) + ")" + throwing);
        }
        Check.due("the face", found.toString(), new TreeSet<>(Arrays.asList(FACE)).toString());
        Check.due("the class", Modifier.toString(RoomHours.class.getModifiers()), "public final");
        Check.end();
    }

    private static void add(TreeSet<String> found, int modifiers, String rest) {
        if (!Modifier.isPrivate(modifiers)) {
            found.add(Modifier.toString(modifiers) + rest);
        }
    }

    private static String names(Class<?>[] types) {
        StringBuilder all = new StringBuilder();
        for (Class<?> type : types) {
            all.append(all.length() == 0 ? "" : " ").append(type.getSimpleName());
        }
        return all.toString();
    }
}
