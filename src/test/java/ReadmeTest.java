import java.io.IOException;
import java.lang.reflect.Method;
import java.lang.reflect.Modifier;
import java.nio.file.Files;
import java.nio.file.Path;
import java.util.HashMap;
import java.util.Map;
import java.util.TreeSet;
import java.util.regex.Matcher;
import java.util.regex.Pattern;

/** README.md's example answers as it says there, and README.md names every call. */
final class ReadmeTest {
    private static final Path README = Path.of("README.md");
    private static final Pattern EXAMPLE = Pattern.compile("(?s)```java\n(.*?)```");
    private static final Pattern CALL = Pattern.compile("(?:int (\\w+) = )?desk\\.(\\w+)\\(([^)]*)\\); +// (-?\\d+)(:.*)?");

    public static void main(String[] args) {
        Due.run(ReadmeTest.class);
    }

    private static Object number(String word, Class<?> type, Map<String, Long> names) {
        if (type == boolean.class) return Boolean.valueOf(word);
        if (word.startsWith("'")) return (int) word.charAt(1);
        return names.containsKey(word) ? names.get(word).intValue() : Integer.parseInt(word);
    }

    private static long make(PictureDesk desk, String name, String[] words, Map<String, Long> names)
            throws ReflectiveOperationException {
        for (Method method : PictureDesk.class.getMethods()) {
            if (!method.getName().equals(name)) continue;
            Class<?>[] types = method.getParameterTypes();
            Object[] numbers = new Object[types.length];
            for (int i = 0; i < types.length; i++) numbers[i] = number(words[i], types[i], names);
            return ((Number) method.invoke(desk, numbers)).longValue();
        }
        throw new NoSuchMethodException(name);
    }

    @Says("An object is used for at most 512 calls after it has been made")
    static void terms_readmeAnswersAsItSays() throws Exception {
        Matcher example = EXAMPLE.matcher(Files.readString(README));
        Due.holds("an example", example.find());
        PictureDesk desk = new PictureDesk();
        Map<String, Long> names = new HashMap<>();
        String[] lines = example.group(1).split("\n");
        Due.holds("first a new object", lines[0].equals("PictureDesk desk = new PictureDesk();"));
        for (int i = 1; i < lines.length; i++) {
            if (lines[i].isEmpty() || lines[i].startsWith("//")) continue;
            Matcher call = CALL.matcher(lines[i]);
            Due.holds("a call and its answer: " + lines[i], call.matches());
            if (!call.matches()) continue;
            long got = make(desk, call.group(2), call.group(3).split(", *"), names);
            Due.is(lines[i], got, Long.parseLong(call.group(4)));
            if (call.group(1) != null) names.put(call.group(1), got);
        }
    }

    @Says("Ahead of the calls")
    static void terms_readmeNamesEveryCall() throws IOException {
        String readme = Files.readString(README);
        TreeSet<String> missing = new TreeSet<>();
        for (Method method : PictureDesk.class.getDeclaredMethods()) {
            boolean isFace = Modifier.isPublic(method.getModifiers());
            if (isFace && !readme.contains("`" + method.getName() + "`")) missing.add(method.getName());
        }
        Due.holds("README.md names every call but " + missing, missing.isEmpty());
    }
}
