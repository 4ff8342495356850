import java.io.IOException;
import java.nio.file.Files;
import java.nio.file.Path;
import java.util.Random;
import java.util.regex.Matcher;
import java.util.regex.Pattern;

/** Rules of LANGUAGE.md that a test can look at: words that the file may not use, and no throwing. */
public final class RulesTest {
    private static final Path SOURCE = Path.of("src/main/java/WaySearch.java");
    private static final String[] FORBIDDEN = {
        "\\bthrow\\b", "\\bthrows\\b", "\\btry\\b", "\\bcatch\\b", "\\bfinally\\b", "\\bsynchronized\\b",
        "\\bassert\\b", "\\bpackage\\b", "->", "::", "\\bequals\\b", "\\bhashCode\\b", "\\btoString\\b",
        "\\bObject\\b", "\\bSystem\\.(?!arraycopy)", "Exact\\b", "\\bprotected\\b",
        "\\b(Integer|Long|Math)\\.[A-Z]",
        "import (?!java\\.util\\.Arrays;)"};
    private static final Pattern CONSTRUCTOR = Pattern.compile("(?s)public WaySearch\\(\\) \\{(.*?)\\}");
    private static final int[] ODD_NUMBERS = {
        0, 1, 2, 7, 46, 47, 48, 49, 62, 63, 64, 65, 95, 96, 97, 128, 191, 192, 511, 512, 513,
        -1, -2, -3, -4, -5, -6, -64, Integer.MIN_VALUE, Integer.MIN_VALUE + 1,
        Integer.MAX_VALUE, Integer.MAX_VALUE - 1};

    public static void main(String[] args) throws IOException {
        words();
        for (int seed = 0; seed < 20; seed++) {
            neverThrows(new Random(seed));
        }
        Check.end();
    }

    private static void words() throws IOException {
        String text = Files.readString(SOURCE);
        String code = text.replaceAll("(?s)/\\*.*?\\*/", " ").replaceAll("//[^\n]*", " ");
        for (String word : FORBIDDEN) {
            Matcher matcher = Pattern.compile(word).matcher(code);
            Check.due("uses of " + word, matcher.results().count(), 0);
        }
        Matcher constructor = CONSTRUCTOR.matcher(code);
        Check.due("the constructor is found", constructor.find(), true);
        Check.due("the constructor hands something out", constructor.group(1).matches("(?s).*\\([^)].*"), false);
        for (int i = 0; i < text.length(); i++) {
            if (text.charAt(i) > 126) {
                Check.due("character " + i, text.charAt(i), ' ');
            }
        }
    }

    /** What the answers are is free behind the 512th call; that there is one is not. */
    private static void neverThrows(Random random) {
        WaySearch x = new WaySearch();
        for (int i = 0; i < 5000; i++) {
            callSomething(x, random);
        }
        Check.due("things at most", x.told(0) <= 48, true);
        Check.due("pipes at most", x.told(1) <= 96, true);
        Check.due("ways at most", x.told(2) <= 64, true);
    }

    private static void callSomething(WaySearch x, Random random) {
        int a = number(random);
        int b = number(random);
        int c = number(random);
        boolean on = random.nextInt(4) == 0;
        switch (random.nextInt(16)) {
            case 0 -> x.tank(on);
            case 1 -> x.pump();
            case 2 -> x.valve();
            case 3 -> x.pipe(a, b, 1 + random.nextInt(3));
            case 4 -> x.pipe(a, b, random.nextLong());
            case 5 -> x.run(a, on);
            case 6 -> x.bar(a, on);
            case 7 -> x.way(a, b);
            case 8 -> x.pipeOf(a, b);
            case 9 -> x.valveOf(a, b);
            case 10 -> x.rest(a);
            case 11 -> x.other(a, b);
            case 12 -> x.two(a, b, c, number(random));
            case 13 -> x.forward(a, b, c);
            case 14 -> x.told(a);
            default -> x.blow(a, b);
        }
    }

    private static int number(Random random) {
        boolean odd = random.nextInt(4) == 0;
        return odd ? ODD_NUMBERS[random.nextInt(ODD_NUMBERS.length)] : random.nextInt(50);
    }
}
