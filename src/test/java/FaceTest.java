import java.lang.reflect.Constructor;
import java.lang.reflect.Executable;
import java.lang.reflect.Field;
import java.lang.reflect.Method;
import java.lang.reflect.Modifier;
import java.util.Arrays;
import java.util.Set;
import java.util.TreeSet;

/** The class shows the face of the document, and no other member that is not private. */
public final class FaceTest {
    private static final String INDEX = " throws IndexOutOfBoundsException";
    private static final String ARGUMENT = " throws IllegalArgumentException";
    private static final String STATE = " throws IllegalStateException";
    private static final String INDEX_ARGUMENT = INDEX + ", IllegalArgumentException";
    private static final String ARGUMENT_STATE = ARGUMENT + ", IllegalStateException";

    private static final Set<String> FACE = Set.of(
            "public TideTable()",
            "public int addWave(int, int, int)" + ARGUMENT_STATE,
            "public int setRange(int, int)" + INDEX_ARGUMENT,
            "public int setLevel(int)" + ARGUMENT,
            "public int height(int)" + ARGUMENT,
            "public int waveHeight(int, int)" + INDEX_ARGUMENT,
            "public int count(int)" + INDEX,
            "public int water(int, int)" + INDEX,
            "public int next(int, boolean)" + ARGUMENT,
            "public int datum(int)" + INDEX,
            "public int addPort()" + STATE,
            "public int setPort(int, boolean, int, int)" + INDEX_ARGUMENT,
            "public int setAddition(int, int)" + INDEX_ARGUMENT,
            "public boolean isInOrder(int)" + INDEX,
            "public int portWater(int, int, boolean)" + INDEX,
            "public int portHeight(int, int)" + INDEX_ARGUMENT + ", IllegalStateException",
            "public int windows(int, int, int, int, int)" + INDEX_ARGUMENT,
            "public int read(int, int)" + ARGUMENT_STATE,
            "public double residual()",
            "public int worst()",
            "public int adjust()" + STATE,
            "public long digest()");

    public static void main(String[] args) {
        Due due = new Due();
        Class<?> type = TideTable.class;
        due.same("modifiers", Modifier.toString(type.getModifiers()), "public final");
        Set<String> shown = new TreeSet<>();
        for (Constructor<?> one : type.getDeclaredConstructors()) {
            addShown(shown, one, "");
        }
        for (Method one : type.getDeclaredMethods()) {
            addShown(shown, one, one.getReturnType().getName() + " ");
        }
        due.same("the face", shown.toString(), new TreeSet<>(FACE).toString());
        for (Field one : type.getDeclaredFields()) {
            due.same("private " + one.getName(), Modifier.isPrivate(one.getModifiers()), true);
        }
        for (Class<?> one : type.getDeclaredClasses()) {
            int how = one.getModifiers();
            boolean isHidden = !Modifier.isPublic(how) && !Modifier.isProtected(how);
            due.same("hidden and static " + one.getName(),
                    isHidden && Modifier.isStatic(how), true);
        }
        due.end("FaceTest");
    }

    private static void addShown(Set<String> shown, Executable member, String result) {
        if (Modifier.isPrivate(member.getModifiers())) {
            return;
        }
        String thrown = simpleNames(member.getExceptionTypes());
        shown.add(Modifier.toString(member.getModifiers()) + " " + result + member.getName() + "("
                + simpleNames(member.getParameterTypes()) + ")"
                + (thrown.isEmpty() ? "" : " throws " + thrown));
    }

    private static String simpleNames(Class<?>[] types) {
        String[] names = Arrays.stream(types).map(Class::getSimpleName).toArray(String[]::new);
        return String.join(", ", names);
    }
}
