import java.io.IOException;
import java.lang.reflect.Method;
import java.nio.file.DirectoryStream;
import java.nio.file.Files;
import java.nio.file.Path;
import java.util.ArrayList;
import java.util.List;
import java.util.regex.Matcher;
import java.util.regex.Pattern;

/** Every test is named after what it quotes, a promise or a rule; every promise and every refusal of it has a test. */
final class SentencesTest {
    private static final Path DOCUMENT = Path.of("../shared/DOC.md"), RULES = Path.of("../shared/LANGUAGE.md");
    private static final Path TESTS = Path.of("src/test/java");
    private static final Pattern NAME = Pattern.compile("(?:promise(\\d\\d)|rule(\\d\\d)|terms)_\\w+");
    private static final Pattern EDGE = Pattern.compile("\\b(NONE|UNKNOWN|OUTSIDE|STATE|FULL|NO)\\b");
    private static final int PROMISES = 29;

    public static void main(String[] args) {
        Due.run(SentencesTest.class);
    }

    private static String fold(String text) {
        return text.replaceAll("\\s+", " ");
    }

    /** The class can be tested without its document, but not whether the tests are all that it asks for. */
    private static boolean hasDocument() {
        boolean has = Files.exists(DOCUMENT) && Files.exists(RULES);
        if (!has) System.out.println("no " + DOCUMENT + ", " + RULES + ": the tests' names are not looked at");
        return has;
    }

    private static String document() throws IOException {
        return fold(Files.readString(DOCUMENT));
    }

    private static String terms() throws IOException {
        String whole = document();
        return whole.substring(0, whole.indexOf("## Promise 1:"));
    }

    private static String promise(int number) throws IOException {
        String whole = document();
        int from = whole.indexOf("## Promise " + number + ":");
        int to = whole.indexOf(" ## ", from);
        return whole.substring(from, to);
    }

    private static String rule(int number) throws IOException {
        String whole = Files.readString(RULES) + "\n";
        int from = whole.indexOf("\n" + number + ". ");
        int to = whole.indexOf("\n" + (number + 1) + ". ", from);
        return from < 0 ? "" : fold(whole.substring(from, to < 0 ? whole.length() : to));
    }

    private static boolean standsThere(Matcher name, String words) throws IOException {
        if (name.group(2) != null) return rule(Integer.parseInt(name.group(2))).contains(words);
        if (name.group(1) != null && promise(Integer.parseInt(name.group(1))).contains(words)) return true;
        return terms().contains(words);
    }

    private static List<Method> allTests() throws IOException, ClassNotFoundException {
        List<Method> tests = new ArrayList<>();
        try (DirectoryStream<Path> files = Files.newDirectoryStream(TESTS, "*Test.java")) {
            for (Path file : files) {
                String name = file.getFileName().toString().replace(".java", "");
                tests.addAll(Due.testsOf(Class.forName(name)));
            }
        }
        return tests;
    }

    @Says("The public face")
    static void terms_everyTestQuotesTheDocument() throws Exception {
        if (!hasDocument()) return;
        for (Method test : allTests()) {
            String words = fold(test.getAnnotation(Says.class).value());
            Matcher name = NAME.matcher(test.getName());
            if (name.matches()) Due.holds(test.getName() + " quotes what it names: " + words, standsThere(name, words));
            else Due.holds("named after a promise or a rule: " + test.getName(), false);
        }
    }

    @Says("The public face")
    static void terms_everyRefusalHasATest() throws Exception {
        if (!hasDocument()) return;
        List<Method> tests = allTests();
        for (int number = 1; number <= PROMISES; number++) {
            String start = String.format("promise%02d_", number);
            Due.holds("a test for promise " + number, hasTest(tests, start));
            Matcher edge = EDGE.matcher(promise(number));
            while (edge.find()) Due.holds("a test " + start + edge.group(), hasTest(tests, start + edge.group() + "_"));
        }
    }

    private static boolean hasTest(List<Method> tests, String start) {
        for (Method test : tests) if (test.getName().startsWith(start)) return true;
        return false;
    }
}
