import java.io.IOException;
import java.lang.reflect.InvocationTargetException;
import java.lang.reflect.Method;
import java.nio.file.Files;
import java.nio.file.Path;
import java.util.ArrayList;
import java.util.Comparator;
import java.util.HashMap;
import java.util.List;
import java.util.Map;

/** Runs the tests of single sentences, and looks that the document still says what they quote. */
abstract class Sentences extends Checks {
    private static final Path DOCUMENT = Path.of("../shared/DOC.md");

    static void runAll(Class<?> tests) throws IOException, IllegalAccessException {
        Map<String, String> sections = sections();
        List<Method> found = new ArrayList<>();
        for (Method method : tests.getDeclaredMethods()) {
            if (method.isAnnotationPresent(Says.class)) found.add(method);
        }
        found.sort(Comparator.comparing(Method::getName));
        for (Method method : found) {
            Says says = method.getAnnotation(Says.class);
            if (!sections.getOrDefault(says.in(), "").contains(says.text())) {
                fault(method.getName() + ": '" + says.in() + "' does not say '" + says.text() + "'");
            }
            runOne(method, says);
        }
        System.out.println(found.size() + " tests of sentences");
        endOfTest();
    }

    private static void runOne(Method method, Says says) throws IllegalAccessException {
        int askedBefore = asked;
        int wrongBefore = wrong;
        try {
            method.invoke(null);
        } catch (InvocationTargetException thrown) {
            fault("the program threw " + thrown.getCause());
        }
        if (asked == askedBefore) fault("nothing was asked");
        if (wrong > wrongBefore) {
            System.out.println("  by " + method.getName() + ", " + says.in() + ": " + says.text());
        }
    }

    /** The document's text by headings ("Promise 3: read") and by titles in capitals ("MEMORY"). */
    private static Map<String, String> sections() throws IOException {
        Map<String, String> made = new HashMap<>();
        String name = "";
        for (String line : Files.readAllLines(DOCUMENT)) {
            if (line.startsWith("#")) {
                name = line.replaceFirst("^#+ *", "");
            } else if (line.matches("[A-Z ]+")) {
                name = line;
            } else {
                made.merge(name, line, (before, next) -> before + " " + next);
            }
        }
        return made;
    }
}
