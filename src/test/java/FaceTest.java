import java.lang.reflect.Field;
import java.lang.reflect.Method;
import java.lang.reflect.Modifier;
import java.util.Arrays;
import java.util.TreeSet;

/** The public face is the document's, with nothing more. */
final class FaceTest {
    public static void main(String[] args) {
        Due.run(FaceTest.class);
    }

    private static final String[] METHODS = {
        "int thing(int,int,int,int,int,int,int,int)", "int of(int,int)", "int set(int,int,int)", "int at(int,int)",
        "int picture(int,int,int,int,int)", "int cloud(int,int,boolean)", "int shows(int,int)", "int count(int,int)",
        "int span(int,int,int)", "int changed(int,int,int)", "int say(int)", "int wipe()", "int fault()",
        "int use(int)", "int fact(int,int,int)", "int fit(int,int,int)", "int could(int,int)", "int all(int,int,int)",
        "int meet(int,int)", "long chance(int,int)", "int did(int,int,boolean)", "long decoy(int,int,int,int,int)",
        "int sure(int,int)", "int flight(int,int,int,int,int)", "long worth(int,int)", "int best(int,int)",
        "long lean(int,int,int,int,int)", "int told(int)"};

    @Says("public final class PictureDesk {")
    static void terms_methods() {
        TreeSet<String> got = new TreeSet<>();
        for (Method method : PictureDesk.class.getDeclaredMethods()) {
            if (Modifier.isPrivate(method.getModifiers())) continue;
            StringBuilder types = new StringBuilder();
            for (Class<?> type : method.getParameterTypes()) types.append(types.length() == 0 ? "" : ",").append(type);
            got.add(method.getReturnType() + " " + method.getName() + "(" + types + ")");
            Due.holds("public " + method, Modifier.isPublic(method.getModifiers()));
            Due.holds("not static " + method, !Modifier.isStatic(method.getModifiers()));
        }
        Due.holds("methods " + got, got.equals(new TreeSet<>(Arrays.asList(METHODS))));
    }

    @Says("public static final int NONE = -6, UNKNOWN = -1, OUTSIDE = -2, STATE = -3, FULL = -4, NO = -5;")
    static void terms_constants() throws ReflectiveOperationException {
        String[] names = {"NONE", "UNKNOWN", "OUTSIDE", "STATE", "FULL", "NO", "LOST"};
        long[] values = {-6, -1, -2, -3, -4, -5, -1000000000000000000L};
        TreeSet<String> got = new TreeSet<>();
        for (Field field : PictureDesk.class.getDeclaredFields()) {
            if (!Modifier.isPrivate(field.getModifiers())) got.add(field.getName());
        }
        Due.holds("constants " + got, got.equals(new TreeSet<>(Arrays.asList(names))));
        for (int i = 0; i < names.length; i++) {
            Field field = PictureDesk.class.getField(names[i]);
            int modifiers = field.getModifiers();
            Due.holds("a constant " + names[i], Modifier.isStatic(modifiers) && Modifier.isFinal(modifiers));
            Due.holds("type of " + names[i], field.getType() == (i < 6 ? int.class : long.class));
            Due.is(names[i], field.getLong(null), values[i]);
        }
    }

    @Says("public PictureDesk();")
    static void terms_constructor() {
        Due.is("constructors", PictureDesk.class.getDeclaredConstructors().length, 1);
        Due.is("public constructors", PictureDesk.class.getConstructors().length, 1);
        Due.holds("public", Modifier.isPublic(PictureDesk.class.getModifiers()));
        Due.holds("final", Modifier.isFinal(PictureDesk.class.getModifiers()));
    }
}
