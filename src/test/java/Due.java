import java.lang.reflect.InvocationTargetException;
import java.lang.reflect.Method;
import java.util.ArrayList;
import java.util.Comparator;
import java.util.List;

/** Runs the tests of a class, compares answers with those that are due, and ends with exit code 1 if one is not. */
final class Due {
    private static final int[] FAR = {Integer.MIN_VALUE, Integer.MIN_VALUE + 1, -1000000, 65536, 1000000,
        Integer.MAX_VALUE - 1, Integer.MAX_VALUE};
    private static final int MOST_LINES = 8;
    private static int wrong;

    /** A call as a function of its numbers. */
    interface Call {
        long with(int... n);
    }

    private Due() {
    }

    static List<Method> testsOf(Class<?> type) {
        List<Method> tests = new ArrayList<>();
        for (Method method : type.getDeclaredMethods()) {
            if (method.isAnnotationPresent(Says.class)) tests.add(method);
        }
        tests.sort(Comparator.comparing(Method::getName));
        return tests;
    }

    static void run(Class<?> type) {
        int passed = 0, failed = 0;
        for (Method test : testsOf(type)) {
            if (passes(test)) passed++;
            else failed++;
        }
        System.out.println(passed + " passed, " + failed + " failed");
        if (failed != 0 || passed == 0) System.exit(1);
    }

    private static boolean passes(Method test) {
        wrong = 0;
        try {
            test.invoke(null);
        } catch (InvocationTargetException e) {
            tell("threw " + e.getCause());
        } catch (ReflectiveOperationException e) {
            tell("can't be run: " + e);
        }
        if (wrong > 0) System.out.println(test.getName() + " failed: \"" + test.getAnnotation(Says.class).value() + "\"");
        return wrong == 0;
    }

    private static void tell(String what) {
        wrong++;
        if (wrong <= MOST_LINES) System.out.println("  " + what);
    }

    static boolean allRight() {
        return wrong == 0;
    }

    static void is(String call, long got, long want) {
        if (got != want) tell(call + " answered " + got + ", due is " + want);
    }

    static void holds(String what, boolean does) {
        if (!does) tell("does not hold: " + what);
    }

    /** Number i of a call may be least to greatest and nothing else: beyond, the call answers the refusal. */
    static void range(Call call, int[] plain, int i, int least, int greatest, long refusal) {
        for (int v = least - 40; v <= greatest + 40; v++) tryOne(call, plain, i, v, v < least || v > greatest, refusal);
        for (int v : FAR) tryOne(call, plain, i, v, true, refusal);
    }

    private static void tryOne(Call call, int[] plain, int i, int v, boolean isRefused, long refusal) {
        int[] n = plain.clone();
        n[i] = v;
        long got = call.with(n);
        if (isRefused != (got == refusal)) tell("with number " + i + " as " + v + " it answered " + got);
    }

    static int[] of(int... n) {
        return n;
    }

    static void say(PictureDesk desk, String text) {
        for (int i = 0; i < text.length(); i++) desk.say(text.charAt(i));
    }

    static int use(PictureDesk desk, int use, String text) {
        say(desk, text);
        return desk.use(use);
    }
}
