import java.io.IOException;
import java.lang.reflect.Method;
import java.nio.file.DirectoryStream;
import java.nio.file.Files;
import java.nio.file.Path;
import java.util.ArrayList;
import java.util.List;
import java.util.regex.Matcher;
import java.util.regex.Pattern;

/** Every test is named after a promise and quotes the document; every promise and every refusal of it has a test. */
final class SentencesTest {
    private static final Path DOCUMENT = Path.of("../shared/DOC.md"), TESTS = Path.of("src/test/java");
    private static final Pattern EDGE = Pattern.compile("\\b(NONE|UNKNOWN|OUTSIDE|STATE|FULL|NO)\\b");
    private static final int PROMISES = 29;

    public static void main(String[] args) {
        Due.run(SentencesTest.class);
    }

    private static String fold(String text) {
        return text.replaceAll("\\s+", " ");
    }

    /** The class can be tested without its document, but not whether the tests are all that it asks for. */
    private static boolean hasDocument() {
        boolean has = Files.exists(DOCUMENT);
        if (!has) System.out.println("no " + DOCUMENT + ": the tests' names are not looked at");
        return has;
    }

    private static String document() throws IOException {
        return fold(Files.readString(DOCUMENT));
    }

    private static String terms() throws IOException {
        String whole = document();
        return whole.substring(0, whole.indexOf("## Promise 1:"));
    }

    private static String promise(int number) throws IOException {
        String whole = document();
        int from = whole.indexOf("## Promise " + number + ":");
        int to = whole.indexOf(" ## ", from);
        return whole.substring(from, to);
    }

    private static List<Method> allTests() throws IOException, ClassNotFoundException {
        List<Method> tests = new ArrayList<>();
        try (DirectoryStream<Path> files = Files.newDirectoryStream(TESTS, "*Test.java")) {
            for (Path file : files) {
                String name = file.getFileName().toString().replace(".java", "");
                tests.addAll(Due.testsOf(Class.forName(name)));
            }
        }
        return tests;
    }

    @Says("The public face")
    static void terms_everyTestQuotesTheDocument() throws Exception {
        if (!hasDocument()) return;
        for (Method test : allTests()) {
            String words = fold(test.getAnnotation(Says.class).value());
            Matcher name = Pattern.compile("(?:promise(\\d\\d)|terms)_\\w+").matcher(test.getName());
            if (!name.matches()) {
                Due.holds("named after a promise: " + test.getName(), false);
                continue;
            }
            boolean isOwn = name.group(1) != null && promise(Integer.parseInt(name.group(1))).contains(words);
            Due.holds(test.getName() + " quotes its promise or the terms: " + words, isOwn || terms().contains(words));
        }
    }

    @Says("The public face")
    static void terms_everyRefusalHasATest() throws Exception {
        if (!hasDocument()) return;
        List<Method> tests = allTests();
        for (int number = 1; number <= PROMISES; number++) {
            String start = String.format("promise%02d_", number);
            Due.holds("a test for promise " + number, hasTest(tests, start));
            Matcher edge = EDGE.matcher(promise(number));
            while (edge.find()) Due.holds("a test " + start + edge.group(), hasTest(tests, start + edge.group() + "_"));
        }
    }

    private static boolean hasTest(List<Method> tests, String start) {
        for (Method test : tests) if (test.getName().startsWith(start)) return true;
        return false;
    }
}
