import java.io.File;
import java.io.IOException;
import java.io.UncheckedIOException;
import java.lang.reflect.Method;
import java.lang.reflect.Modifier;
import java.net.URL;
import java.net.URLClassLoader;
import java.nio.file.DirectoryStream;
import java.nio.file.Files;
import java.nio.file.Path;
import java.util.ArrayList;
import java.util.Arrays;
import java.util.Comparator;
import java.util.List;
import java.util.Map;
import java.util.Set;
import java.util.TreeMap;
import java.util.TreeSet;
import java.util.regex.Matcher;
import java.util.regex.Pattern;
import java.util.stream.Stream;
import javax.tools.JavaCompiler;
import javax.tools.ToolProvider;

/**
 * README.md: the calls that it shows are made, in its own lines, and answered as it says there; its
 * tables tell every call, refusal and constant as the document has them, and every test of the project.
 */
public final class ReadmeTest {
    private static final Path README = Path.of("README.md");
    private static final Path DOCUMENT = Path.of("../shared/DOC.md");
    private static final Path TESTS = Path.of("src/test/java");
    private static final String SCRIPT = ".ci/run";
    private static final String CLASS_FILE = "src/main/java/WaySearch.java";
    private static final String COMPILE = "javac -d out " + CLASS_FILE + " Example.java";

    private static final Pattern BLOCK = Pattern.compile("(?ms)^```(\\w*)\n(.*?)^```$");
    /** A call in a line of its own: 1 a new variable, 2 the call, 3 its name, 4 the answer. */
    private static final Pattern CALL = Pattern.compile(
            "\\s*(?:(?:int|long|boolean) (\\w+) = )?(\\w+\\.(\\w+)\\([^()]*\\));(?:\\s*// (-?\\w+)(?:: .*)?)?");
    private static final Pattern FRAME = Pattern.compile(
            "WaySearch \\w+ = new WaySearch\\(\\);|for \\(int i = 0; i < \\d+; i\\+\\+\\) \\{|\\}|");
    private static final Pattern CONSTANT_ROW = Pattern.compile("(?m)^\\| `([A-Z]+)` \\| (-?\\d+) \\|");
    private static final Pattern CALL_ROW = Pattern.compile("(?m)^\\| (`\\w+\\(.*\\)`) \\| .* \\| ([\\w, ]+) \\|$");
    private static final Pattern SIGNATURE = Pattern.compile("`(\\w+)\\(([\\w, ]*)\\)`");
    private static final Pattern PROMISE = Pattern.compile("(?ms)^## Promise \\d+: (\\w+)$(.*?)(?=^## )");
    private static final Pattern REFUSAL = Pattern.compile("\\b(NONE|WRONG|SAME|EMPTY|FULL|False)\\b");
    private static final Pattern NAMED_TEST = Pattern.compile("`(\\w+Test)`");
    private static final Pattern ROW_OF_TESTS = Pattern.compile("`(\\w+Test)` to `(\\w+Test)`");

    private static final String TEXT = read(README);
    /** The answers that README.md shows, by the names of the calls. */
    private static final Map<String, Set<String>> SHOWN = new TreeMap<>();
    private static final Map<String, List<String>> REFUSALS = new TreeMap<>();

    public static void main(String[] args) throws IOException, ReflectiveOperationException {
        List<String> lines = linesOf("java");
        String comparing = comparing(lines);
        Path out = Files.createTempDirectory("readme");
        try {
            runAsShown(lines, out);
            compareAnswers(comparing, out);
        } finally {
            delete(out);
        }
        everyCallIsShown();
        constants();
        refusalsAreShown();
        refusalsAreTheDocuments();
        howToRunTheTests();
        everyTestIsNamed();
        Check.end();
    }

    private static String read(Path file) {
        try {
            return Files.readString(file);
        } catch (IOException unreadable) {
            throw new UncheckedIOException(unreadable);
        }
    }

    private static List<String> linesOf(String language) {
        List<String> lines = new ArrayList<>();
        Matcher blocks = BLOCK.matcher(TEXT);
        while (blocks.find()) {
            if (blocks.group(1).equals(language)) {
                blocks.group(2).lines().forEach(lines::add);
            }
        }
        return lines;
    }

    /** The lines that README.md shows as a program that compares each answer with the one it names. */
    private static String comparing(List<String> lines) {
        StringBuilder body = new StringBuilder();
        for (String line : lines) {
            Matcher call = CALL.matcher(line);
            boolean isCall = call.matches();
            if (isCall && call.group(4) != null) {
                body.append(comparison(call));
            } else {
                Check.due("\"" + line + "\" shows a call with its answer", isCall, false);
                Check.due("\"" + line + "\" is understood", isCall || FRAME.matcher(line).matches(), true);
                body.append(line).append('\n');
            }
        }
        return body.toString();
    }

    private static String comparison(Matcher call) {
        String shown = call.group(4);
        SHOWN.computeIfAbsent(call.group(3), name -> new TreeSet<>()).add(shown);
        String want = REFUSAL.matcher(shown).matches() ? "WaySearch." + shown : shown;
        String got = call.group(2);
        String declaration = "";
        if (call.group(1) != null) {
            declaration = "var " + call.group(1) + " = " + got + ";\n";
            got = call.group(1);
        }
        return declaration + "answers.add(new Object[] {\"" + call.group(2) + "\", " + got + ", " + want + "});\n";
    }

    /** Compiles and runs the lines with the class beside them, as README.md says it is done. */
    private static void runAsShown(List<String> lines, Path out) throws IOException, ReflectiveOperationException {
        Check.due("\"" + COMPILE + "\" is shown", linesOf("").contains(COMPILE), true);
        Check.due("\"java -cp out Example\" is shown", linesOf("").contains("java -cp out Example"), true);
        String source = "public class Example {\npublic static void main(String[] args) {\n"
                + String.join("\n", lines) + "\n}\n}\n";
        Path own = Files.createDirectory(out.resolve("shown"));
        Path file = Files.writeString(own.resolve("Example.java"), source);
        if (compiles("-cp", "", "-d", own.toString(), CLASS_FILE, file.toString())) {
            try (URLClassLoader loader = loaderOf(own, ClassLoader.getPlatformClassLoader())) {
                loader.loadClass("Example").getMethod("main", String[].class).invoke(null, (Object) new String[0]);
            }
        }
    }

    private static void compareAnswers(String body, Path out) throws IOException, ReflectiveOperationException {
        String source = "public class Comparing {\npublic static java.util.List<Object[]> answers() {\n"
                + "java.util.List<Object[]> answers = new java.util.ArrayList<>();\n"
                + body + "return answers;\n}\n}\n";
        Path own = Files.createDirectory(out.resolve("compared"));
        Path file = Files.writeString(own.resolve("Comparing.java"), source);
        if (compiles("-cp", System.getProperty("java.class.path"), "-d", own.toString(), file.toString())) {
            try (URLClassLoader loader = loaderOf(own, ReadmeTest.class.getClassLoader())) {
                Object answers = loader.loadClass("Comparing").getMethod("answers").invoke(null);
                for (Object row : (List<?>) answers) {
                    compare((Object[]) row);
                }
            }
        }
    }

    private static void compare(Object[] row) {
        // As texts: an int and a long of the same value are the same answer, true and 1 are not.
        String got = String.valueOf(row[1]);
        String want = String.valueOf(row[2]);
        Check.due(row[0] + " answered " + got + ", README.md names " + want, got.equals(want), true);
    }

    private static boolean compiles(String... arguments) {
        JavaCompiler compiler = ToolProvider.getSystemJavaCompiler();
        boolean done = compiler != null && compiler.run(null, null, null, arguments) == 0;
        Check.due("what README.md shows compiles: " + Arrays.toString(arguments), done, true);
        return done;
    }

    private static URLClassLoader loaderOf(Path directory, ClassLoader parent) throws IOException {
        return new URLClassLoader(new URL[] {directory.toUri().toURL()}, parent);
    }

    private static void delete(Path directory) throws IOException {
        try (Stream<Path> files = Files.walk(directory)) {
            files.sorted(Comparator.reverseOrder()).map(Path::toFile).forEach(File::delete);
        }
    }

    private static Map<String, Integer> publicMethods() {
        Map<String, Integer> methods = new TreeMap<>();
        for (Method method : WaySearch.class.getDeclaredMethods()) {
            if (Modifier.isPublic(method.getModifiers())) {
                methods.put(method.getName(), method.getParameterCount());
            }
        }
        return methods;
    }

    private static void everyCallIsShown() {
        Set<String> methods = publicMethods().keySet();
        Check.due("calls shown: " + SHOWN.keySet() + " of " + methods, SHOWN.keySet().equals(methods), true);
    }

    private static void constants() throws ReflectiveOperationException {
        Set<String> told = new TreeSet<>();
        Matcher rows = CONSTANT_ROW.matcher(TEXT);
        while (rows.find()) {
            told.add(rows.group(1));
            int value = WaySearch.class.getField(rows.group(1)).getInt(null);
            Check.due("the value that README.md tells of " + rows.group(1), Integer.parseInt(rows.group(2)), value);
        }
        Set<String> all = Set.of("NONE", "WRONG", "SAME", "EMPTY", "FULL");
        Check.due("constants told: " + told, told.equals(all), true);
    }

    /** Every call has its row in the table, and each of the row's refusals is shown by a call. */
    private static void refusalsAreShown() {
        Map<String, Integer> told = new TreeMap<>();
        Matcher rows = CALL_ROW.matcher(TEXT);
        while (rows.find()) {
            List<String> refusals = List.of(rows.group(2).split(", "));
            Matcher calls = SIGNATURE.matcher(rows.group(1));
            while (calls.find()) {
                String name = calls.group(1);
                told.put(name, calls.group(2).isEmpty() ? 0 : calls.group(2).split(", ").length);
                REFUSALS.put(name, refusals);
                for (String refusal : refusals) {
                    boolean isShown = SHOWN.getOrDefault(name, Set.of()).contains(refusal);
                    Check.due("a call of " + name + " is shown that answers " + refusal, isShown, true);
                }
            }
        }
        Check.due("calls in the table: " + told, told.equals(publicMethods()), true);
    }

    /** The document tells a call's refusals in the order in which they come, and so does the table. */
    private static void refusalsAreTheDocuments() {
        if (!Files.exists(DOCUMENT)) {
            System.out.println(DOCUMENT + " is not here: the table of refusals is not compared with it");
            return;
        }
        Map<String, List<String>> told = new TreeMap<>();
        Matcher promises = PROMISE.matcher(read(DOCUMENT));
        while (promises.find()) {
            List<String> refusals = new ArrayList<>();
            Matcher words = REFUSAL.matcher(promises.group(2));
            while (words.find()) {
                String word = words.group().replace("False", "false");
                if (!refusals.contains(word)) {
                    refusals.add(word);
                }
            }
            told.put(promises.group(1), refusals);
        }
        Check.due("refusals in the table " + REFUSALS + ", in the document " + told, REFUSALS.equals(told), true);
    }

    private static void howToRunTheTests() {
        Check.due(SCRIPT + " is shown", linesOf("").contains(SCRIPT), true);
        Check.due(SCRIPT + " is there", Files.isRegularFile(Path.of(SCRIPT)), true);
    }

    private static void everyTestIsNamed() throws IOException {
        TreeSet<String> present = new TreeSet<>();
        try (DirectoryStream<Path> files = Files.newDirectoryStream(TESTS, "*Test.java")) {
            files.forEach(file -> present.add(file.getFileName().toString().replace(".java", "")));
        }
        Set<String> named = new TreeSet<>();
        Matcher names = NAMED_TEST.matcher(TEXT);
        while (names.find()) {
            named.add(names.group(1));
        }
        Matcher rows = ROW_OF_TESTS.matcher(TEXT);
        while (rows.find()) {
            named.addAll(present.subSet(rows.group(1), true, rows.group(2), true));
        }
        Check.due("tests named: " + named + ", tests there: " + present, named.equals(present), true);
    }
}
