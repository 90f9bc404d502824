import java.lang.reflect.Field;
import java.lang.reflect.Method;
import java.lang.reflect.Modifier;
import java.util.Arrays;
import java.util.TreeSet;

/** The public face is the document's, with nothing more; promise 1. */
final class FaceTest {
    private static final Due DUE = new Due();

    public static void main(String[] args) {
        methods();
        constants();
        constructors();
        newObject();
        DUE.end();
    }

    private static void methods() {
        TreeSet<String> want = new TreeSet<>(Arrays.asList(
            "int thing(int,int,int,int,int,int,int,int)", "int of(int,int)", "int set(int,int,int)", "int at(int,int)",
            "int picture(int,int,int,int,int)", "int cloud(int,int,boolean)", "int shows(int,int)", "int count(int,int)",
            "int span(int,int,int)", "int changed(int,int,int)", "int say(int)", "int wipe()", "int fault()",
            "int use(int)", "int fact(int,int,int)", "int fit(int,int,int)", "int could(int,int)", "int all(int,int,int)",
            "int meet(int,int)", "long chance(int,int)", "int did(int,int,boolean)", "long decoy(int,int,int,int,int)",
            "int sure(int,int)", "int flight(int,int,int,int,int)", "long worth(int,int)", "int best(int,int)",
            "long lean(int,int,int,int,int)", "int told(int)"));
        TreeSet<String> got = new TreeSet<>();
        for (Method method : PictureDesk.class.getDeclaredMethods()) {
            if (Modifier.isPrivate(method.getModifiers())) continue;
            StringBuilder types = new StringBuilder();
            for (Class<?> type : method.getParameterTypes()) types.append(types.length() == 0 ? "" : ",").append(type);
            got.add(method.getReturnType() + " " + method.getName() + "(" + types + ")");
            DUE.holds("public " + method, Modifier.isPublic(method.getModifiers()));
        }
        DUE.holds("methods " + got, got.equals(want));
    }

    private static void constants() {
        TreeSet<String> got = new TreeSet<>();
        for (Field field : PictureDesk.class.getDeclaredFields()) {
            if (!Modifier.isPrivate(field.getModifiers())) got.add(field.getType() + " " + field.getName());
        }
        TreeSet<String> want = new TreeSet<>(Arrays.asList("int NONE", "int UNKNOWN", "int OUTSIDE", "int STATE",
            "int FULL", "int NO", "long LOST"));
        DUE.holds("constants " + got, got.equals(want));
        DUE.is("NONE", PictureDesk.NONE, -6);
        DUE.is("UNKNOWN", PictureDesk.UNKNOWN, -1);
        DUE.is("OUTSIDE", PictureDesk.OUTSIDE, -2);
        DUE.is("STATE", PictureDesk.STATE, -3);
        DUE.is("FULL", PictureDesk.FULL, -4);
        DUE.is("NO", PictureDesk.NO, -5);
        DUE.is("LOST", PictureDesk.LOST, -1000000000000000000L);
    }

    private static void constructors() {
        DUE.is("constructors", PictureDesk.class.getDeclaredConstructors().length, 1);
        DUE.is("public constructors", PictureDesk.class.getConstructors().length, 1);
        DUE.holds("final", Modifier.isFinal(PictureDesk.class.getModifiers()));
    }

    private static void newObject() {
        PictureDesk desk = new PictureDesk();
        for (int what = 0; what < 4; what++) DUE.is("told(" + what + ")", desk.told(what), 0);
        DUE.is("of(0, 0)", desk.of(0, 0), -1);
        DUE.is("shows(0, 0)", desk.shows(0, 0), -1);
        DUE.is("all(0, 0, 0)", desk.all(0, 0, 0), -1);
        DUE.is("worth(255, 0)", desk.worth(255, 0), 0);
        DUE.is("worth(255, 1)", desk.worth(255, 1), 1);
        DUE.is("meet(0, 0)", desk.meet(0, 0), -6);
        DUE.is("meet(0, 1)", desk.meet(0, 1), 0);
        DUE.is("wipe()", desk.wipe(), 0);
    }
}
