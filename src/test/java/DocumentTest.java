import java.io.IOException;
import java.lang.reflect.Method;
import java.nio.file.DirectoryStream;
import java.nio.file.Files;
import java.nio.file.Path;
import java.util.Arrays;
import java.util.Map;
import java.util.TreeMap;
import java.util.regex.Matcher;
import java.util.regex.Pattern;

/**
 * Whether each sentence that a test stands for is in the document where the test says, and whether
 * every word of the terms and of the promises is in a sentence that a test stands for.
 */
public final class DocumentTest {
    private static final Path DOCUMENT = Path.of("../shared/DOC.md");
    private static final boolean IS_HERE = Files.exists(DOCUMENT);
    private static final int PROMISES = 16;
    private static final Path TESTS = Path.of("src/test/java");
    private static final Pattern SIGNATURE = Pattern.compile("^`[^`]*`: ");
    private static final Pattern WORD = Pattern.compile("[A-Za-z0-9]+");

    private static final Map<String, String> TEXTS = new TreeMap<>();
    private static final Map<String, boolean[]> QUOTED = new TreeMap<>();
    private static final boolean[] TESTED = new boolean[PROMISES + 1];

    public static void main(String[] args) throws IOException, ClassNotFoundException {
        if (IS_HERE) {
            readDocument();
        } else {
            System.out.println(DOCUMENT + " is not here: no sentence is compared with it");
        }
        try (DirectoryStream<Path> files = Files.newDirectoryStream(TESTS, "*Test.java")) {
            for (Path file : files) {
                String name = file.getFileName().toString().replace(".java", "");
                readSentences(Class.forName(name));
            }
        }
        for (int promise = 1; promise <= PROMISES; promise++) {
            Check.due("promise " + promise + " has a test", TESTED[promise], true);
        }
        if (IS_HERE) {
            everyWordIsQuoted("Terms");
            for (int promise = 1; promise <= PROMISES; promise++) {
                everyWordIsQuoted("Promise " + promise);
            }
        }
        Check.end();
    }

    private static void readDocument() throws IOException {
        for (String part : Files.readString(DOCUMENT).split("(?m)^## ")) {
            String heading = part.lines().findFirst().orElse("");
            String name = heading.replaceAll("^(Promise \\d+):.*", "$1");
            String text = part.substring(heading.length()).replaceAll("\\s+", " ").strip();
            String sentences = SIGNATURE.matcher(text).replaceFirst("");
            TEXTS.put(name, sentences);
            QUOTED.put(name, new boolean[sentences.length()]);
        }
    }

    private static void readSentences(Class<?> tests) {
        for (Method method : tests.getDeclaredMethods()) {
            Sentence sentence = method.getAnnotation(Sentence.class);
            if (sentence != null) {
                String test = tests.getName() + "." + method.getName();
                Check.due(test + " names a promise", sentence.promise().length > 0, true);
                for (int promise : sentence.promise()) {
                    boolean isPromise = promise >= 1 && promise <= PROMISES;
                    Check.due(test + " names promise " + promise, isPromise, true);
                    TESTED[isPromise ? promise : 0] = true;
                    if (IS_HERE) {
                        quote(test, sentence, promise);
                    }
                }
            }
        }
    }

    private static void quote(String test, Sentence sentence, int promise) {
        String name = sentence.in().isEmpty() ? "Promise " + promise : sentence.in();
        int at = TEXTS.getOrDefault(name, "").indexOf(sentence.says());
        Check.due(test + " quotes \"" + sentence.says() + "\" from " + name, at >= 0, true);
        if (at >= 0) {
            Arrays.fill(QUOTED.get(name), at, at + sentence.says().length(), true);
        }
    }

    private static void everyWordIsQuoted(String name) {
        Check.due(name + " stands in the document", TEXTS.containsKey(name), true);
        Matcher words = WORD.matcher(TEXTS.getOrDefault(name, ""));
        while (words.find()) {
            Check.due(name + ": a test stands for \"" + words.group() + "\" at " + words.start(),
                    QUOTED.get(name)[words.start()], true);
        }
    }
}
