import java.io.IOException;
import java.lang.reflect.Constructor;
import java.lang.reflect.Field;
import java.lang.reflect.Method;
import java.lang.reflect.Modifier;
import java.nio.file.Files;
import java.nio.file.Path;
import java.util.Set;
import java.util.TreeSet;
import java.util.regex.Matcher;
import java.util.regex.Pattern;

/** The face of the class is the document's and no more; the plainest rules of LANGUAGE.md hold. */
public final class FaceTest {
    private static final Set<String> FACE = Set.of(
            "public static final int NONE", "public static final int UNKNOWN",
            "public static final int WRONG", "public static final int LARGE",
            "public static final int STALE", "public static final int SPENT",
            "public static final int FULL", "public NotePool()",
            "public int hash(int,int)", "public int deposit(int,int,int)",
            "public int load(int,int,int,int,int)", "public boolean set(int,int)",
            "public int get(int)", "public int fault()", "public int submit()", "public int notes()",
            "public int commitment(int)", "public int owner(int)", "public int value(int)",
            "public boolean unspent(int)", "public int balance(int)", "public int root(int)",
            "public int node(int,int)", "public int used()", "public int mark(int)", "public int pool()");
    private static final Pattern FORBIDDEN = Pattern.compile("\\b(import|package|throw|throws|try|catch|"
            + "synchronized|assert|transient|volatile|native|System|Object|\\w*Exact|Random|Thread)\\b|->|::");

    public static void main(String[] args) throws IOException {
        Check check = new Check();
        check.same("the face", new TreeSet<>(faceOf()).toString(), new TreeSet<>(FACE).toString());
        check.due("the class is public and final",
                NotePool.class.getModifiers() == (Modifier.PUBLIC | Modifier.FINAL), true);
        insideClasses(check);
        sourceText(check);
        check.finish();
    }

    private static Set<String> faceOf() {
        Set<String> face = new TreeSet<>();
        for (Field field : NotePool.class.getDeclaredFields()) {
            if (!Modifier.isPrivate(field.getModifiers())) {
                face.add(field.toString().replace("NotePool.", ""));
            }
        }
        for (Constructor<?> constructor : NotePool.class.getDeclaredConstructors()) {
            face.add(constructor.toString());
        }
        for (Method method : NotePool.class.getDeclaredMethods()) {
            if (!Modifier.isPrivate(method.getModifiers())) {
                face.add(method.toString().replace("NotePool.", ""));
            }
        }
        return face;
    }

    private static void insideClasses(Check check) {
        Set<String> publicNames = new TreeSet<>();
        for (Method method : NotePool.class.getDeclaredMethods()) {
            if (Modifier.isPublic(method.getModifiers())) {
                publicNames.add(method.getName());
            }
        }
        staticFieldsAreFinal(check, NotePool.class);
        for (Method method : NotePool.class.getDeclaredMethods()) {
            check.due(method + " is public or has a name of its own",
                    Modifier.isPublic(method.getModifiers()) || !publicNames.contains(method.getName()), true);
        }
        for (Class<?> inside : NotePool.class.getDeclaredClasses()) {
            int modifiers = inside.getModifiers();
            check.due(inside + " is static", Modifier.isStatic(modifiers), true);
            check.due(inside + " is not seen outside",
                    Modifier.isPublic(modifiers) || Modifier.isProtected(modifiers), false);
            staticFieldsAreFinal(check, inside);
            for (Method method : inside.getDeclaredMethods()) {
                check.due(method + " has a name of its own", publicNames.contains(method.getName()), false);
                check.due(method + " has at most 7 parameters", method.getParameterCount() <= 7, true);
            }
        }
    }

    private static void staticFieldsAreFinal(Check check, Class<?> type) {
        for (Field field : type.getDeclaredFields()) {
            int modifiers = field.getModifiers();
            check.due(field + " is final if static",
                    !Modifier.isStatic(modifiers) || Modifier.isFinal(modifiers), true);
        }
    }

    private static void sourceText(Check check) throws IOException {
        String source = Files.readString(Path.of("src/main/java/NotePool.java"));
        String code = source.replaceAll("(?s)/\\*.*?\\*/", "").replaceAll("//[^\n]*", "");
        Matcher matcher = FORBIDDEN.matcher(code);
        check.same("the first forbidden word", matcher.find() ? matcher.group() : "none", "none");
    }

    private FaceTest() {
    }
}
