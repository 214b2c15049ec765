import java.lang.reflect.Constructor;
import java.lang.reflect.Field;
import java.lang.reflect.Method;
import java.lang.reflect.Modifier;
import java.util.Set;
import java.util.TreeSet;

/** "The public face": these members, with these values of the constants, and no other public ones. */
public final class FaceTest {
    private static final Set<String> FACE = Set.of(
            "public static final int NONE = -1", "public static final int UNKNOWN = -2",
            "public static final int WRONG = -3", "public static final int LARGE = -4",
            "public static final int STALE = -5", "public static final int SPENT = -6",
            "public static final int FULL = -7", "public NotePool()",
            "public int hash(int,int)", "public int deposit(int,int,int)",
            "public int load(int,int,int,int,int)", "public boolean set(int,int)",
            "public int get(int)", "public int fault()", "public int submit()", "public int notes()",
            "public int commitment(int)", "public int owner(int)", "public int value(int)",
            "public boolean unspent(int)", "public int balance(int)", "public int root(int)",
            "public int node(int,int)", "public int used()", "public int mark(int)", "public int pool()");

    public static void main(String[] args) throws IllegalAccessException {
        Check check = new Check();
        check.same("the face", new TreeSet<>(faceOf()).toString(), new TreeSet<>(FACE).toString());
        check.due("the class is public and final",
                NotePool.class.getModifiers() == (Modifier.PUBLIC | Modifier.FINAL), true);
        check.same("the class above it", NotePool.class.getSuperclass().getName(), "java.lang.Object");
        check.due("interfaces", NotePool.class.getInterfaces().length, 0);
        check.same("the package", NotePool.class.getPackageName(), "");
        check.finish();
    }

    private static Set<String> faceOf() throws IllegalAccessException {
        Set<String> face = new TreeSet<>();
        for (Field field : NotePool.class.getDeclaredFields()) {
            if (!Modifier.isPrivate(field.getModifiers())) {
                String value = Modifier.isStatic(field.getModifiers()) ? " = " + field.get(null) : "";
                face.add(field.toString().replace("NotePool.", "") + value);
            }
        }
        for (Constructor<?> constructor : NotePool.class.getDeclaredConstructors()) {
            face.add(constructor.toString());
        }
        for (Method method : NotePool.class.getDeclaredMethods()) {
            if (!Modifier.isPrivate(method.getModifiers())) {
                face.add(method.toString().replace("NotePool.", ""));
            }
        }
        return face;
    }

    private FaceTest() {
    }
}
