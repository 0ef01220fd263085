import java.io.File;
import java.io.IOException;
import java.lang.reflect.Method;
import java.lang.reflect.Modifier;
import java.net.URL;
import java.net.URLClassLoader;
import java.nio.file.Files;
import java.nio.file.Path;
import java.util.ArrayList;
import java.util.List;
import java.util.Map;
import java.util.Set;
import java.util.TreeMap;
import java.util.TreeSet;
import java.util.regex.Matcher;
import java.util.regex.Pattern;
import javax.tools.ToolProvider;

/** The README: its examples answer what it says, and the names and codes that it tells are there. */
public final class ReadmeTest {
    private static final Path README = Path.of("README.md");
    private static final Path TESTS = Path.of("src/test/java");
    /** A line of an example that tells what its call answers. */
    private static final Pattern ANSWERED = Pattern.compile("int (\\w+) = .*; +// (-?\\d+).*");
    private static final Pattern CODE = Pattern.compile("\\| `(\\w+)` \\((-\\d+)\\) .*");
    private static final Pattern TEST_NAME = Pattern.compile("`(\\w+Test)`");
    private static final int ANSWERED_LINES = 11;

    private static final Checks c = new Checks();

    public static void main(String[] args) throws Exception {
        List<String> page = Files.readAllLines(README);
        examples(page);
        codes(page);
        calls(String.join("\n", page));
        tests(String.join("\n", page));
        c.end();
    }

    private static void examples(List<String> page) throws Exception {
        List<String> example = exampleOf(page);
        Map<String, String> due = new TreeMap<>();
        for (String line : example) {
            Matcher matcher = ANSWERED.matcher(line);
            if (matcher.matches()) {
                due.put(matcher.group(1), matcher.group(2));
            }
        }
        c.due("lines of the README that tell an answer", due.size(), ANSWERED_LINES);
        c.same("answers of the README's examples", answersOf(example, due.keySet()), due.toString());
    }

    /** Returns the lines of all examples in Java, which go on with the same object. */
    private static List<String> exampleOf(List<String> page) {
        List<String> example = new ArrayList<>();
        boolean isInside = false;
        for (String line : page) {
            if (line.startsWith("```")) {
                isInside = line.equals("```java");
            } else if (isInside) {
                example.add(line);
            }
        }
        return example;
    }

    private static String answersOf(List<String> example, Set<String> names) throws Exception {
        StringBuilder source = new StringBuilder("public final class Example {\n");
        source.append("public static java.util.Map<String, String> run() {\n");
        source.append(String.join("\n", example)).append('\n');
        source.append("java.util.Map<String, String> answers = new java.util.TreeMap<>();\n");
        for (String name : names) {
            source.append("answers.put(\"" + name + "\", \"\" + " + name + ");\n");
        }
        source.append("return answers;\n}\n}\n");
        return String.valueOf(runCompiled(source.toString()));
    }

    private static Object runCompiled(String source) throws Exception {
        Path folder = Files.createTempDirectory("readme");
        Path file = folder.resolve("Example.java");
        Path compiled = folder.resolve("Example.class");
        try {
            Files.writeString(file, source);
            int code = ToolProvider.getSystemJavaCompiler().run(null, null, null,
                    "-cp", System.getProperty("java.class.path"), "-d", folder.toString(), file.toString());
            c.due("compiling the README's examples", code, 0);
            return code == 0 ? runIn(folder) : "not compiled";
        } finally {
            Files.deleteIfExists(file);
            Files.deleteIfExists(compiled);
            Files.deleteIfExists(folder);
        }
    }

    private static Object runIn(Path folder) throws Exception {
        URL[] places = {folder.toUri().toURL()};
        try (URLClassLoader loader = new URLClassLoader(places, ReadmeTest.class.getClassLoader())) {
            Method run = loader.loadClass("Example").getMethod("run");
            return run.invoke(null);
        }
    }

    private static void codes(List<String> page) throws Exception {
        int told = 0;
        for (String line : page) {
            Matcher matcher = CODE.matcher(line);
            if (matcher.matches()) {
                told++;
                c.due(matcher.group(1) + " of the README", Integer.parseInt(matcher.group(2)),
                        StarBailiff.class.getField(matcher.group(1)).getInt(null));
            }
        }
        c.due("codes of the README", told, 4);
    }

    /** Each call is named by the README, but for those of a kind that is told by others. */
    private static void calls(String page) {
        Set<String> likeOthers = Set.of("seen", "seenAgain", "debtAgain", "couldAgain", "isWell", "meanCloud", "poundShare");
        for (Method method : StarBailiff.class.getDeclaredMethods()) {
            String name = method.getName();
            boolean isPublic = Modifier.isPublic(method.getModifiers());
            if (isPublic && !likeOthers.contains(name)) {
                boolean isNamed = Pattern.compile("[`.]" + name + "[`(]").matcher(page).find();
                c.due("the README names " + name, isNamed ? 1 : 0, 1);
            }
        }
    }

    private static void tests(String page) throws IOException {
        Set<String> told = new TreeSet<>();
        Matcher matcher = TEST_NAME.matcher(page);
        while (matcher.find()) {
            told.add(matcher.group(1));
        }
        Set<String> there = new TreeSet<>();
        for (File file : List.of(TESTS.toFile().listFiles())) {
            if (file.getName().endsWith("Test.java")) {
                there.add(file.getName().replace(".java", ""));
            }
        }
        c.same("tests that the README names", told.toString(), there.toString());
    }
}
