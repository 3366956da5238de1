import java.io.IOException;
import java.lang.reflect.Constructor;
import java.lang.reflect.Field;
import java.lang.reflect.Method;
import java.lang.reflect.Modifier;
import java.nio.file.Files;
import java.nio.file.Path;
import java.util.Set;
import java.util.TreeSet;
import java.util.regex.Matcher;
import java.util.regex.Pattern;

/** The public face of the document, and the rules of LANGUAGE.md that can be seen from outside or in the words. */
public final class FaceTest {
    private static final String SOURCE = "src/main/java/BorrowStacks.java";
    private static final String[] METHODS = {
        "int allocate(int)", "int read(int,int)", "int write(int,int,int)", "int reborrow(int,int,int,int,int)",
        "int free(int)", "int enterCall()", "int leaveCall()", "int checkRead(int,int)", "int checkWrite(int,int)",
        "int checkFree(int)", "int removedByWrite(int,int)", "int stackSize(int,int)", "int itemTag(int,int,int)",
        "int itemPermission(int,int,int)", "int itemProtected(int,int,int)", "int allocationOf(int)",
        "int parent(int)", "int liveCells(int)", "int isFreed(int)", "int pointerCount()", "int callDepth()",
        "int violationCount()", "int violationKind()", "int violationCell()", "int errorCount(int)",
        "int append(int)", "int clearText()", "int runScript()", "long digest()"};
    private static final String[] CONSTANTS = {
        "INVALID=-2", "REJECTED=-3", "FULL=-4", "UNDEFINED=-5", "NONE=-1", "UNIQUE=0", "SHARED_READ_WRITE=1",
        "SHARED_READ_ONLY=2", "DISABLED=3", "MUTABLE=0", "SHARED=1", "RAW=2", "NO_PERMISSION=1", "PROTECTED=2",
        "FREED=3"};
    private static final Pattern FORBIDDEN = Pattern.compile(
            "\\b(throw|throws|try|catch|synchronized|assert|import|package|volatile|native|Object|hashCode|toString"
            + "|System\\.(?!arraycopy)\\w+|\\w+Exact)\\b|->|::");
    private static int wrong = 0;

    public static void main(String[] args) throws IOException, IllegalAccessException {
        members();
        classesInside();
        words();
        System.out.println(wrong == 0 ? "the face is as due" : wrong + " faults of the face");
        if (wrong != 0) System.exit(1);
    }

    private static void fault(String what) {
        wrong++;
        System.out.println(what);
    }

    private static void same(String what, Set<String> got, String[] due) {
        Set<String> wanted = new TreeSet<>(Set.of(due));
        if (!got.equals(wanted)) fault(what + " are " + got + ", due are " + wanted);
    }

    private static void members() throws IllegalAccessException {
        int modifiers = BorrowStacks.class.getModifiers();
        if (!Modifier.isPublic(modifiers) || !Modifier.isFinal(modifiers)) fault("the class is not public and final");
        Set<String> open = new TreeSet<>();
        Set<String> openNames = new TreeSet<>();
        Set<String> hiddenNames = new TreeSet<>();
        for (Method method : BorrowStacks.class.getDeclaredMethods()) {
            if (Modifier.isPrivate(method.getModifiers())) {
                hiddenNames.add(method.getName());
                continue;
            }
            if (!Modifier.isPublic(method.getModifiers())) fault("neither public nor private: " + method);
            open.add(shown(method));
            openNames.add(method.getName());
        }
        same("the public methods", open, METHODS);
        hiddenNames.retainAll(openNames);
        if (!hiddenNames.isEmpty()) fault("private methods with the name of a public one: " + hiddenNames);
        Constructor<?>[] constructors = BorrowStacks.class.getDeclaredConstructors();
        if (constructors.length != 1 || constructors[0].getParameterCount() != 0
                || !Modifier.isPublic(constructors[0].getModifiers())) fault("not just the one public constructor");
        Set<String> constants = new TreeSet<>();
        for (Field field : BorrowStacks.class.getDeclaredFields()) {
            int set = field.getModifiers();
            if (Modifier.isStatic(set) && !Modifier.isFinal(set)) fault("a static field that can change: " + field);
            if (Modifier.isPrivate(set)) continue;
            if (field.getType() != int.class || !Modifier.isPublic(set) || !Modifier.isStatic(set)) fault("no constant: " + field);
            else constants.add(field.getName() + "=" + field.getInt(null));
        }
        same("the constants", constants, CONSTANTS);
    }

    private static String shown(Method method) {
        StringBuilder made = new StringBuilder(method.getReturnType() + " " + method.getName() + "(");
        for (Class<?> type : method.getParameterTypes()) {
            if (made.charAt(made.length() - 1) != '(') made.append(',');
            made.append(type);
        }
        return made.append(')').toString();
    }

    private static void classesInside() {
        Class<?>[] inside = BorrowStacks.class.getDeclaredClasses();
        if (inside.length > 12) fault("more than twelve classes");
        for (Class<?> one : inside) {
            int set = one.getModifiers();
            if (!Modifier.isStatic(set)) fault("not static: " + one);
            if (Modifier.isPublic(set) || Modifier.isProtected(set)) fault("too open: " + one);
        }
    }

    private static void words() throws IOException {
        String source = Files.readString(Path.of(SOURCE));
        // Comments and signs in quotes are no code.
        String code = source.replaceAll("(?s)/\\*.*?\\*/", " ").replaceAll("//[^\n]*", " ").replaceAll("'[^']*'", "0");
        Matcher matcher = FORBIDDEN.matcher(code);
        while (matcher.find()) fault("outside the language: " + matcher.group());
        for (int i = 0; i < source.length(); i++) {
            if (source.charAt(i) > 126) fault("a sign beyond 126 at " + i);
        }
    }
}
