import java.io.IOException;
import java.nio.file.Files;
import java.nio.file.Path;
import java.util.ArrayList;
import java.util.Comparator;
import java.util.List;
import java.util.Set;
import java.util.TreeSet;
import java.util.regex.Matcher;
import java.util.regex.Pattern;
import java.util.stream.Collectors;
import java.util.stream.Stream;

/**
 * What README.md shows holds as it stands there: its uses of the class are put into an Example.java with a check of
 * each answer, and its commands are run in a folder that is laid out like the checkout.
 */
public final class ReadmeTest {
    private static final Path README = Path.of("README.md");
    private static final String ALL_TESTS = ".ci/run";
    private static final Pattern BLOCK = Pattern.compile("(?ms)^```(\\w+)\n(.*?)^```$");
    /** A statement, its answer as a number or the name of a constant, and perhaps a remark behind a comma. */
    private static final Pattern ANSWERED = Pattern.compile("(?:int (\\w+) = )?(.*?); *// (-?\\d+|[A-Z_]+)(?:, .*)?");
    private static final Pattern TEST_NAME = Pattern.compile("`(\\w+Test)`");
    private static int wrong = 0;

    public static void main(String[] args) throws IOException, InterruptedException {
        String readme = Files.readString(README);
        testNames(readme);
        Path room = Files.createTempDirectory("readme");
        try {
            Path checkout = laidOut(room);
            Files.writeString(checkout.resolve("Example.java"), example(blocks(readme, "java")));
            commands(checkout, blocks(readme, "sh"));
        } finally {
            remove(room);
        }
        System.out.println(wrong == 0 ? "the readme holds" : wrong + " faults of the readme");
        if (wrong != 0) System.exit(1);
    }

    private static void fault(String what) {
        wrong++;
        System.out.println(what);
    }

    private static List<String> blocks(String readme, String language) {
        List<String> found = new ArrayList<>();
        Matcher matcher = BLOCK.matcher(readme);
        while (matcher.find()) {
            if (matcher.group(1).equals(language)) found.add(matcher.group(2));
        }
        if (found.isEmpty()) fault("the readme shows no block of " + language);
        return found;
    }

    /** The readme names the tests that there are, and no other. */
    private static void testNames(String readme) throws IOException {
        Set<String> named = new TreeSet<>();
        Matcher matcher = TEST_NAME.matcher(readme);
        while (matcher.find()) named.add(matcher.group(1));
        Set<String> there;
        try (Stream<Path> files = Files.list(Path.of("src/test/java"))) {
            there = files.map(file -> file.getFileName().toString()).filter(name -> name.endsWith("Test.java"))
                    .map(name -> name.replace(".java", "")).collect(Collectors.toCollection(TreeSet::new));
        }
        if (!named.equals(there)) fault("the readme names the tests " + named + ", there are " + there);
    }

    private static Path laidOut(Path room) throws IOException {
        Path checkout = Files.createDirectory(room.resolve("main"));
        Files.createSymbolicLink(room.resolve("shared"), Path.of("../shared").toRealPath());
        Files.createSymbolicLink(checkout.resolve("src"), Path.of("src").toRealPath());
        return checkout;
    }

    private static String example(List<String> uses) {
        StringBuilder made = new StringBuilder("public final class Example {\n    static int wrong = 0;\n"
                + "    static void due(String what, long got, long want) {\n        if (got == want) return;\n"
                + "        wrong++;\n"
                + "        System.out.println(what + \" answered \" + got + \", the readme says \" + want);\n    }\n"
                + "    public static void main(String[] args) {\n");
        for (String use : uses) {
            made.append("{\n");
            int answers = 0;
            for (String line : use.split("\n")) {
                Matcher matcher = ANSWERED.matcher(line);
                boolean answered = matcher.matches();
                if (!answered && line.contains("//")) fault("not to be read as an answer: " + line);
                if (answered) answers++;
                made.append(answered ? checked(matcher) : line).append('\n');
            }
            if (answers == 0) fault("a use without an answer: " + use);
            made.append("}\n");
        }
        return made.append("        if (wrong != 0) System.exit(1);\n    }\n}\n").toString();
    }

    private static String checked(Matcher line) {
        String variable = line.group(1);
        String call = line.group(2);
        String answer = line.group(3);
        String want = Character.isUpperCase(answer.charAt(0)) ? "BorrowStacks." + answer : answer;
        String what = '"' + call.replace("\"", "\\\"") + '"';
        if (variable == null) return "due(" + what + ", " + call + ", " + want + ");";
        return "int " + variable + " = " + call + "; due(" + what + ", " + variable + ", " + want + ");";
    }

    private static void commands(Path checkout, List<String> blocks) throws IOException, InterruptedException {
        boolean tellsAllTests = false;
        for (String block : blocks) {
            if (block.strip().equals(ALL_TESTS)) {
                // It is what runs this test, so it is not run from here again.
                tellsAllTests = true;
                if (!Files.isExecutable(Path.of(ALL_TESTS))) fault(ALL_TESTS + " can't be executed");
            } else {
                run(checkout, block);
            }
        }
        if (!tellsAllTests) fault("the readme does not tell how to run all tests");
    }

    private static void run(Path checkout, String block) throws IOException, InterruptedException {
        ProcessBuilder builder = new ProcessBuilder("sh", "-e", "-c", block);
        Process process = builder.directory(checkout.toFile()).redirectErrorStream(true).start();
        process.getOutputStream().close();
        String output = new String(process.getInputStream().readAllBytes());
        int code = process.waitFor();
        if (code != 0) fault("exit code " + code + " of\n" + block + output);
    }

    private static void remove(Path room) throws IOException {
        List<Path> inside;
        try (Stream<Path> walked = Files.walk(room)) {
            inside = walked.sorted(Comparator.reverseOrder()).toList();
        }
        for (Path path : inside) Files.delete(path);
    }
}
