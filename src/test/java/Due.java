/** Compares answers with those that are due, and ends a test with exit code 1 if one was not. */
final class Due {
    private int wrong;

    void is(String call, long got, long want) {
        if (got == want) return;
        wrong++;
        System.out.println(call + " answered " + got + ", due is " + want);
    }

    void holds(String what, boolean does) {
        if (does) return;
        wrong++;
        System.out.println("does not hold: " + what);
    }

    int wrong() {
        return wrong;
    }

    void end() {
        System.out.println(wrong == 0 ? "all answers are as due" : wrong + " answers are not as due");
        if (wrong != 0) System.exit(1);
    }

    static void say(PictureDesk desk, String text) {
        for (int i = 0; i < text.length(); i++) desk.say(text.charAt(i));
    }

    static int faultOf(String text) {
        PictureDesk desk = new PictureDesk();
        say(desk, text);
        return desk.fault();
    }
}
