import java.io.IOException;
import java.lang.reflect.Field;
import java.lang.reflect.Method;
import java.lang.reflect.Modifier;
import java.nio.file.Files;
import java.nio.file.Path;
import java.util.List;
import java.util.Set;
import java.util.TreeSet;
import java.util.regex.Matcher;
import java.util.regex.Pattern;

/** Those rules of LANGUAGE.md that can be read off the class and its text. */
public final class LanguageTest {
    private static final Check check = new Check();
    private static final Pattern FORBIDDEN = Pattern.compile("\\b(import|package|throw|throws|try|catch|"
            + "synchronized|assert|transient|volatile|native|System|Object|\\w*Exact|Random|Thread|instanceof|"
            + "double|float|equals|hashCode|toString)\\b|->|::");
    private static final Pattern METHOD_START = Pattern.compile("^( {4}| {8})(?! |if |for |while |switch )"
            + "[\\w ]+\\([^()]*\\) \\{$");

    public static void main(String[] args) throws IOException {
        String code = withoutComments(Files.readString(Path.of("src/main/java/NotePool.java")));
        Class<?>[] classes = NotePool.class.getNestMembers();
        check.sentence("rule 1: no private method bears the name of a public one", () -> names(classes));
        check.sentence("rule 1: the classes inside are private or package-visible and static", () -> inside(classes));
        check.sentence("rules 3 and 5: types, and no static state", () -> types(classes));
        check.sentence("rules 2, 4, 6 and 13: no word that is not allowed", () -> words(code));
        check.sentence("rule 11: how much of each there is", () -> sizes(classes));
        check.sentence("rule 11: methods stay short", () -> lengths(classes, code.split("\n")));
        check.sentence("rule 12: objects are made with the pool, and by no call", () -> objects(code));
        check.finish();
    }

    private static String withoutComments(String source) {
        return source.replaceAll("(?s)/\\*.*?\\*/", "").replaceAll("//[^\n]*", "");
    }

    private static void names(Class<?>[] classes) {
        Set<String> publicNames = new TreeSet<>();
        for (Method method : NotePool.class.getDeclaredMethods()) {
            if (Modifier.isPublic(method.getModifiers())) {
                publicNames.add(method.getName());
            }
        }
        for (Class<?> type : classes) {
            for (Method method : type.getDeclaredMethods()) {
                boolean ofFace = type == NotePool.class && Modifier.isPublic(method.getModifiers());
                check.due(method + " has a name of its own", ofFace || !publicNames.contains(method.getName()), true);
            }
        }
    }

    private static void inside(Class<?>[] classes) {
        for (Class<?> type : classes) {
            if (type != NotePool.class) {
                int modifiers = type.getModifiers();
                check.due(type + " is static", Modifier.isStatic(modifiers), true);
                check.due(type + " is seen outside", Modifier.isPublic(modifiers) || Modifier.isProtected(modifiers),
                        false);
                check.due(type + " stands in NotePool by its name", type.getDeclaringClass() == NotePool.class, true);
            }
        }
    }

    private static void types(Class<?>[] classes) {
        List<Class<?>> own = List.of(classes);
        for (Class<?> type : classes) {
            for (Field field : type.getDeclaredFields()) {
                boolean number = field.getType() == int.class || field.getType() == int[].class;
                boolean constant = Modifier.isFinal(field.getModifiers());
                boolean fixed = Modifier.isStatic(field.getModifiers());
                check.due(field + " is of a type that is allowed", number || !fixed && own.contains(field.getType()),
                        true);
                check.due(field + " is no static state", !fixed || constant, true);
            }
        }
    }

    private static void words(String code) {
        Matcher matcher = FORBIDDEN.matcher(code);
        check.same("the first word that is not allowed", matcher.find() ? matcher.group() : "none", "none");
    }

    private static void sizes(Class<?>[] classes) {
        check.due("at most 12 classes", classes.length <= 12, true);
        for (Class<?> type : classes) {
            int fields = 0;
            for (Field field : type.getDeclaredFields()) {
                fields += Modifier.isStatic(field.getModifiers()) ? 0 : 1;
            }
            check.due(type + " has at most 20 fields", fields <= 20, true);
            for (Method method : type.getDeclaredMethods()) {
                check.due(method + " has at most 7 parameters", method.getParameterCount() <= 7, true);
            }
        }
    }

    /** A method ends with the first brace that stands as far in as it began. */
    private static void lengths(Class<?>[] classes, String[] lines) {
        int methods = 0;
        for (Class<?> type : classes) {
            methods += type.getDeclaredMethods().length;
        }
        int found = 0;
        for (int start = 0; start < lines.length; start++) {
            Matcher matcher = METHOD_START.matcher(lines[start]);
            if (!matcher.find()) {
                continue;
            }
            int end = start;
            while (!lines[end].equals(matcher.group(1) + "}")) {
                end++;
            }
            found++;
            check.due("lines of " + lines[start].trim() + " are at most 60", end - start + 1 <= 60, true);
        }
        check.due("all methods were found in the text", found >= methods, true);
    }

    private static void objects(String code) {
        for (String line : code.split("\n")) {
            if (Pattern.compile("\\bnew\\b|\\bclone\\b|\\bcopyOf").matcher(line).find()) {
                check.due("made with the pool: " + line.trim(), line.trim().startsWith("private final "), true);
            }
        }
    }

    private LanguageTest() {
    }
}
