import java.io.IOException;
import java.lang.reflect.Constructor;
import java.lang.reflect.Executable;
import java.lang.reflect.Field;
import java.lang.reflect.Method;
import java.lang.reflect.Modifier;
import java.nio.file.Files;
import java.nio.file.Path;
import java.util.ArrayList;
import java.util.Arrays;
import java.util.List;
import java.util.TreeSet;
import java.util.regex.Matcher;
import java.util.regex.Pattern;

/** Rules of ../shared/LANGUAGE.md that can be seen in the class file or in the source's words. */
final class LanguageTest {
    private static final Path SOURCE = Path.of("src/main/java/PictureDesk.java");
    private static final int MOST_PARAMETERS = 7, MOST_LINES = 60, MOST_CLASSES = 12, MOST_FIELDS = 20;

    public static void main(String[] args) {
        Due.run(LanguageTest.class);
    }

    private static List<Class<?>> classes() {
        List<Class<?>> all = new ArrayList<>(Arrays.asList(PictureDesk.class.getDeclaredClasses()));
        all.add(PictureDesk.class);
        return all;
    }

    /** The source without what its comments say. */
    private static String code() throws IOException {
        return Files.readString(SOURCE).replaceAll("//[^\n]*", "").replaceAll("(?s)/\\*.*?\\*/", "");
    }

    private static void standsNowhere(String words) throws IOException {
        Matcher found = Pattern.compile(words).matcher(code());
        while (found.find()) Due.holds("no " + found.group() + " in the class", false);
    }

    @Says("which are private or package-visible and static")
    static void rule01_classesInside() {
        for (Class<?> inside : PictureDesk.class.getDeclaredClasses()) {
            int modifiers = inside.getModifiers();
            Due.holds("static " + inside, Modifier.isStatic(modifiers));
            Due.holds("hidden " + inside, !Modifier.isPublic(modifiers) && !Modifier.isProtected(modifiers));
        }
    }

    @Says("No private method bears the name of a public one.")
    static void rule01_privateNames() {
        TreeSet<String> face = new TreeSet<>();
        for (Method method : PictureDesk.class.getDeclaredMethods()) {
            if (Modifier.isPublic(method.getModifiers())) face.add(method.getName());
        }
        for (Class<?> each : classes()) for (Method method : each.getDeclaredMethods()) {
            boolean isFace = each == PictureDesk.class && Modifier.isPublic(method.getModifiers());
            Due.holds("name of " + method, isFace || !face.contains(method.getName()));
        }
    }

    @Says("no lambda, no method reference")
    static void rule02_noLambda() throws IOException {
        standsNowhere("->|::");
    }

    @Says("The library: only what stands here.")
    static void rule04_noOtherLibrary() throws IOException {
        standsNowhere("\\bimport\\s+(?!java\\.util\\.(?:ArrayList|List|Arrays|Iterator);)[^;]*;");
        standsNowhere("\\bSystem\\.(?!arraycopy\\()\\w+");
        standsNowhere("\\b\\w+Exact\\(");
        standsNowhere("\\b(Thread|Runtime|Objects|Random|Class|Character|Boolean|Optional|Map|Set)\\b");
    }

    @Says("Static fields are final")
    static void rule05_staticFieldsAreFinal() {
        for (Class<?> each : classes()) for (Field field : each.getDeclaredFields()) {
            int modifiers = field.getModifiers();
            Due.holds("final " + field, !Modifier.isStatic(modifiers) || Modifier.isFinal(modifiers));
        }
    }

    @Says("no static initialiser block")
    static void rule05_noStaticBlock() throws IOException {
        standsNowhere("\\bstatic\\s*\\{");
    }

    /** The document names no exception, so none is thrown, and there is none to catch. */
    @Says("A call of the face throws exactly what and where the document says, and nothing else ever reaches its caller.")
    static void rule06_noExceptions() throws IOException {
        standsNowhere("\\b(throw|throws|try|catch|finally|synchronized|assert)\\b");
        standsNowhere("\\b(equals|hashCode|toString)\\b");
    }

    @Says("A method takes at most seven parameters.")
    static void rule11_parameters() {
        for (Class<?> each : classes()) {
            for (Method method : each.getDeclaredMethods()) takesFew(method, Modifier.isPublic(method.getModifiers()));
            for (Constructor<?> made : each.getDeclaredConstructors()) takesFew(made, false);
        }
    }

    private static void takesFew(Executable what, boolean isFace) {
        Due.holds("parameters of " + what, isFace || what.getParameterCount() <= MOST_PARAMETERS);
    }

    @Says("Methods stay short (some sixty lines)")
    static void rule11_shortMethods() throws IOException {
        Matcher body = Pattern.compile("(?ms)^( {4}| {8})(?! )[^\n;]*\\) \\{$.*?^\\1\\}$").matcher(code());
        int found = 0;
        while (body.find()) {
            found++;
            String head = body.group().lines().findFirst().orElse("");
            Due.holds("short:" + head, body.group().lines().count() <= MOST_LINES);
        }
        int methods = 0;
        for (Class<?> each : classes()) methods += each.getDeclaredMethods().length;
        Due.holds("found " + found + " bodies of " + methods + " methods", found >= methods);
    }

    @Says("the file has at most some twelve classes, and a class some twenty fields beside its constants")
    static void rule11_classesAndFields() {
        Due.holds("classes", classes().size() <= MOST_CLASSES);
        for (Class<?> each : classes()) {
            int fields = 0;
            for (Field field : each.getDeclaredFields()) if (!Modifier.isStatic(field.getModifiers())) fields++;
            Due.holds("fields of " + each, fields <= MOST_FIELDS);
        }
    }
}
