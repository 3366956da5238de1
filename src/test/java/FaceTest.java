import java.io.IOException;
import java.lang.reflect.Constructor;
import java.lang.reflect.Field;
import java.lang.reflect.Method;
import java.lang.reflect.Modifier;
import java.nio.file.Files;
import java.nio.file.Path;
import java.util.Set;
import java.util.TreeSet;
import java.util.regex.Matcher;
import java.util.regex.Pattern;

/** The public face of the document, and the rules of LANGUAGE.md that can be seen from outside or in the words. */
public final class FaceTest {
    private static final String SOURCE = "src/main/java/BorrowStacks.java";
    private static final Path DOCUMENT = Path.of("../shared/DOC.md");
    private static final Pattern FACE = Pattern.compile("(?s)## The public face\\s+```java\n(.*?)```");
    private static final Pattern FACE_METHOD = Pattern.compile("public ((?:int|long) \\w+\\([^)]*\\));");
    private static final Pattern FACE_CONSTANTS = Pattern.compile("public static final int ([^;]*);");
    private static final Pattern PROMISE = Pattern.compile("## Promise \\d+: \\w+\n\n`((?:int|long) \\w+\\([^)]*\\))`");
    /** The methods of a class inside stand one step further to the right, where other methods have their statements. */
    private static final Pattern METHOD_HEAD = Pattern.compile("( {4}| {8})(?!if|for|while|switch)\\w[^=]*\\) \\{");
    private static final int MOST_PARAMETERS = 7;
    private static final int MOST_FIELDS = 20;
    private static final int MOST_LINES = 60;
    private static final Pattern FORBIDDEN = Pattern.compile(
            "\\b(throw|throws|try|catch|synchronized|assert|import|package|volatile|native|Object|hashCode|toString"
            + "|System\\.(?!arraycopy)\\w+|\\w+Exact)\\b|->|::");
    private static int wrong = 0;

    public static void main(String[] args) throws IOException, IllegalAccessException {
        String document = Files.readString(DOCUMENT);
        Matcher face = FACE.matcher(document);
        if (!face.find()) fault("the document shows no public face");
        else members(methods(face.group(1), FACE_METHOD), constants(face.group(1)));
        promises(document);
        classesInside();
        sizes();
        words();
        System.out.println(wrong == 0 ? "the face is as due" : wrong + " faults of the face");
        if (wrong != 0) System.exit(1);
    }

    private static void fault(String what) {
        wrong++;
        System.out.println(what);
    }

    private static void same(String what, Set<String> got, Set<String> due) {
        if (due.isEmpty()) fault(what + ": the document shows none");
        if (!got.equals(due)) fault(what + " are " + got + ", due are " + due);
    }

    /** The signatures that the document writes, without the names of the parameters. */
    private static Set<String> methods(String text, Pattern pattern) {
        Set<String> found = new TreeSet<>();
        Matcher matcher = pattern.matcher(text);
        while (matcher.find()) {
            found.add(matcher.group(1).replaceAll("int \\w+([,)])", "int$1").replace(", ", ","));
        }
        return found;
    }

    private static Set<String> constants(String face) {
        Set<String> found = new TreeSet<>();
        Matcher matcher = FACE_CONSTANTS.matcher(face);
        while (matcher.find()) found.addAll(Set.of(matcher.group(1).replace(" ", "").split(",")));
        return found;
    }

    /** Each method has its promise: the promises tell the same signatures as the face. */
    private static void promises(String document) {
        Set<String> open = new TreeSet<>();
        for (Method method : BorrowStacks.class.getMethods()) {
            if (method.getDeclaringClass() == BorrowStacks.class) open.add(shown(method));
        }
        same("the promised methods", open, methods(document, PROMISE));
    }

    private static void members(Set<String> dueMethods, Set<String> dueConstants) throws IllegalAccessException {
        int modifiers = BorrowStacks.class.getModifiers();
        if (!Modifier.isPublic(modifiers) || !Modifier.isFinal(modifiers)) fault("the class is not public and final");
        Set<String> open = new TreeSet<>();
        Set<String> openNames = new TreeSet<>();
        Set<String> hiddenNames = new TreeSet<>();
        for (Method method : BorrowStacks.class.getDeclaredMethods()) {
            if (Modifier.isPrivate(method.getModifiers())) {
                hiddenNames.add(method.getName());
                continue;
            }
            if (!Modifier.isPublic(method.getModifiers())) fault("neither public nor private: " + method);
            open.add(shown(method));
            openNames.add(method.getName());
        }
        same("the public methods", open, dueMethods);
        hiddenNames.retainAll(openNames);
        if (!hiddenNames.isEmpty()) fault("private methods with the name of a public one: " + hiddenNames);
        Constructor<?>[] constructors = BorrowStacks.class.getDeclaredConstructors();
        if (constructors.length != 1 || constructors[0].getParameterCount() != 0
                || !Modifier.isPublic(constructors[0].getModifiers())) fault("not just the one public constructor");
        Set<String> constants = new TreeSet<>();
        for (Field field : BorrowStacks.class.getDeclaredFields()) {
            int set = field.getModifiers();
            if (Modifier.isStatic(set) && !Modifier.isFinal(set)) fault("a static field that can change: " + field);
            if (Modifier.isPrivate(set)) continue;
            if (field.getType() != int.class || !Modifier.isPublic(set) || !Modifier.isStatic(set)) fault("no constant: " + field);
            else constants.add(field.getName() + "=" + field.getInt(null));
        }
        same("the constants", constants, dueConstants);
    }

    private static String shown(Method method) {
        StringBuilder made = new StringBuilder(method.getReturnType() + " " + method.getName() + "(");
        for (Class<?> type : method.getParameterTypes()) {
            if (made.charAt(made.length() - 1) != '(') made.append(',');
            made.append(type);
        }
        return made.append(')').toString();
    }

    private static void classesInside() {
        Class<?>[] inside = BorrowStacks.class.getDeclaredClasses();
        if (inside.length > 12) fault("more than twelve classes");
        for (Class<?> one : inside) {
            int set = one.getModifiers();
            if (!Modifier.isStatic(set)) fault("not static: " + one);
            if (Modifier.isPublic(set) || Modifier.isProtected(set)) fault("too open: " + one);
        }
    }

    private static void sizes() throws IOException {
        sizesOf(BorrowStacks.class);
        for (Class<?> one : BorrowStacks.class.getDeclaredClasses()) sizesOf(one);
        String[] lines = Files.readString(Path.of(SOURCE)).split("\n");
        for (int i = 0; i < lines.length; i++) {
            Matcher head = METHOD_HEAD.matcher(lines[i]);
            if (!head.matches()) continue;
            int end = i;
            while (end < lines.length && !lines[end].equals(head.group(1) + "}")) end++;
            if (end - i >= MOST_LINES) fault("a long method: " + lines[i].strip());
        }
    }

    private static void sizesOf(Class<?> one) {
        int fields = 0;
        for (Field field : one.getDeclaredFields()) {
            if (!Modifier.isStatic(field.getModifiers())) fields++;
        }
        if (fields > MOST_FIELDS) fault(fields + " fields in " + one);
        for (Method method : one.getDeclaredMethods()) {
            if (method.getParameterCount() > MOST_PARAMETERS) fault("too many parameters: " + method);
        }
        for (Constructor<?> constructor : one.getDeclaredConstructors()) {
            if (constructor.getParameterCount() > MOST_PARAMETERS) fault("too many parameters: " + constructor);
        }
    }

    private static void words() throws IOException {
        String source = Files.readString(Path.of(SOURCE));
        // Comments and signs in quotes are no code.
        String code = source.replaceAll("(?s)/\\*.*?\\*/", " ").replaceAll("//[^\n]*", " ").replaceAll("'[^']*'", "0");
        Matcher matcher = FORBIDDEN.matcher(code);
        while (matcher.find()) fault("outside the language: " + matcher.group());
        for (int i = 0; i < source.length(); i++) {
            if (source.charAt(i) > 126) fault("a sign beyond 126 at " + i);
        }
    }
}
