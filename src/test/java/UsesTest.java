/** Promises 12 to 19: uses. */
final class UsesTest {
    private static final Due DUE = new Due();

    public static void main(String[] args) {
        say();
        fault();
        use();
        seenCells();
        nearest();
        factRefusals();
        tests();
        joints();
        couldAndAll();
        DUE.end();
    }

    private static void say() {
        PictureDesk desk = new PictureDesk();
        DUE.is("say(32)", desk.say(32), -2);
        DUE.is("say(127)", desk.say(127), -2);
        DUE.is("say(33)", desk.say(33), 1);
        DUE.is("say(126)", desk.say(126), 2);
        for (int i = 3; i <= 40; i++) DUE.is("sign " + i, desk.say('s'), i);
        DUE.is("sign 41", desk.say('s'), -4);
        DUE.is("sign 41, outside", desk.say(32), -2);
        DUE.is("told(2)", desk.told(2), 40);
        DUE.is("wipe()", desk.wipe(), 40);
        DUE.is("told(2)", desk.told(2), 0);
        DUE.is("wipe()", desk.wipe(), 0);
        DUE.is("say(115)", desk.say(115), 1);
    }

    private static void fault() {
        String[] good = {"s>1", "k=05", "h<20", "n0<9", "n5=99", "s>1&k=2", "s>1|k=2&h>10|n3<4"};
        for (String text : good) DUE.is("fault of " + text, Due.faultOf(text), -6);
        DUE.is("the longest", Due.faultOf("s>1&s>1&s>1&s>1&s>1&s>1&s>1&s>1&s>1&s>12"), -6);
        DUE.is("40 signs that do not end", Due.faultOf("s>1&s>1&s>1&s>1&s>1&s>1&s>1&s>1&s>1&s>1&"), 40);
        DUE.is("nothing", Due.faultOf(""), 0);
        for (int i = 33; i < 127; i++) {
            char c = (char) i;
            boolean isFact = c == 's' || c == 'k' || c == 'h' || c == 'n';
            boolean isDigit = c >= '0' && c <= '9';
            boolean isJoint = c == '&' || c == '|';
            DUE.is("as a fact " + c, Due.faultOf("" + c), isFact ? 1 : 0);
            DUE.is("behind n " + c, Due.faultOf("n" + c), c >= '0' && c <= '5' ? 2 : 1);
            DUE.is("behind n0 " + c, Due.faultOf("n0" + c), c >= '<' && c <= '>' ? 3 : 2);
            DUE.is("behind s " + c, Due.faultOf("s" + c), c >= '<' && c <= '>' ? 2 : 1);
            DUE.is("behind s= " + c, Due.faultOf("s=" + c), isDigit ? -6 : 2);
            DUE.is("behind s=1 " + c, Due.faultOf("s=1" + c), isDigit ? -6 : isJoint ? 4 : 3);
            DUE.is("behind s=12 " + c, Due.faultOf("s=12" + c), isJoint ? 5 : 4);
            DUE.is("behind s=1& " + c, Due.faultOf("s=1&" + c), isFact ? 5 : 4);
        }
    }

    private static void use() {
        PictureDesk desk = new PictureDesk();
        DUE.is("no text", desk.use(0), -5);
        DUE.is("no such use", desk.use(-1), -1);
        DUE.is("no such use", desk.use(5), -1);
        Due.say(desk, "s>1");
        DUE.is("new", desk.use(4), 1);
        DUE.is("the signs are gone", desk.told(2), 0);
        DUE.is("told(3)", desk.told(3), 16);
        Due.say(desk, "s>");
        DUE.is("a fault", desk.use(4), -5);
        DUE.is("the signs stay", desk.told(2), 2);
        desk.say('2');
        DUE.is("another one", desk.use(4), 0);
        Due.say(desk, "s=0");
        DUE.is("the first", desk.use(0), 1);
        DUE.is("told(3)", desk.told(3), 17);
        desk.thing(0, 0, 1, 1, 1, 0, 0, 0);
        DUE.is("the first one's text", desk.fit(0, 0, 0), 2);
        Due.say(desk, "s=1|s=0");
        desk.use(4);
        DUE.is("a longer text", desk.fit(4, 0, 0), 2);
        Due.say(desk, "s=1");
        desk.use(4);
        DUE.is("a shorter text again", desk.fit(4, 0, 0), 0);
    }

    private static void seenCells() {
        PictureDesk desk = new PictureDesk();
        desk.thing(2, 2, 4, 1, 5, 3, 10, 30);
        desk.thing(3, 2, 1, 1, 9, 3, 20, 30);
        desk.picture(0, 2, 10, 0, 5);
        desk.picture(2, 4, 25, 0, 5);
        desk.picture(0, 11, 31, 0, 5);
        int[] days = {9, 10, 24, 25, 99};
        int[] seen = {0, 1, 1, 2, 2};
        for (int i = 0; i < 5; i++) {
            DUE.is("s by " + days[i], desk.fact(0, days[i], 0), seen[i]);
            DUE.is("k by " + days[i], desk.fact(0, days[i], 1), seen[i] > 0 ? 3 : -6);
            DUE.is("h by " + days[i], desk.fact(0, days[i], 2), seen[i] > 0 ? 5 : -6);
        }
        desk.cloud(1, 28, true);
        DUE.is("under cloud in one", desk.fact(0, 99, 0), 1);
        desk.cloud(0, 26, true);
        DUE.is("shown by the other one still", desk.fact(0, 99, 0), 1);
        desk.cloud(1, 26, true);
        DUE.is("by none", desk.fact(0, 99, 0), 0);
        DUE.is("the other thing", desk.fact(1, 99, 0), 1);
        desk.set(1, 9, 1);
        DUE.is("the other thing under a net", desk.fact(1, 99, 0), 0);
    }

    private static void nearest() {
        PictureDesk desk = new PictureDesk();
        desk.thing(0, 0, 2, 2, 5, 0, 0, 99);
        desk.thing(4, 3, 2, 2, 5, 1, 0, 99);
        desk.thing(11, 7, 1, 1, 5, 2, 0, 99);
        desk.thing(0, 0, 1, 1, 9, 0, 40, 40);
        desk.picture(0, 11, 10, 0, 0);
        DUE.is("n0 of the first", desk.fact(0, 10, 3), 99);
        DUE.is("n1 of the first", desk.fact(0, 10, 4), 7);
        DUE.is("n2 of the first", desk.fact(0, 10, 5), 18);
        DUE.is("from the first cell to the nearest one", desk.fact(1, 10, 3), 5);
        DUE.is("n2 of the second", desk.fact(1, 10, 5), 11);
        DUE.is("before the picture", desk.fact(0, 9, 4), -6);
        desk.cloud(0, 5, true);
        DUE.is("a gap at 5", desk.fact(0, 10, 3), -6);
        DUE.is("known all the same", desk.fact(0, 10, 4), 7);
        desk.cloud(0, 5, false);
        desk.cloud(0, 6, true);
        DUE.is("a gap at 6", desk.fact(0, 10, 3), 99);
        desk.cloud(0, 0, true);
        DUE.is("a gap on itself", desk.fact(0, 10, 3), -6);
        desk.picture(0, 0, 40, 0, 0);
        DUE.is("another one on its first cell", desk.fact(0, 40, 3), 0);
        DUE.is("of the other one", desk.fact(3, 40, 3), 1);
        desk.set(1, 9, 1);
        DUE.is("under a net", desk.fact(0, 40, 4), 99);
    }

    private static void factRefusals() {
        PictureDesk desk = new PictureDesk();
        DUE.is("fact(0, 100, 9)", desk.fact(0, 100, 9), -1);
        desk.thing(0, 0, 2, 2, 5, 0, 0, 99);
        DUE.is("fact(0, 100, 0)", desk.fact(0, 100, 0), -2);
        DUE.is("fact(0, -1, 0)", desk.fact(0, -1, 0), -2);
        DUE.is("fact(0, 0, 9)", desk.fact(0, 0, 9), -2);
        DUE.is("fact(0, 0, -1)", desk.fact(0, 0, -1), -2);
        DUE.is("fact(0, 0, 8)", desk.fact(0, 0, 8), -6);
    }

    private static int fitOf(String text) {
        PictureDesk desk = new PictureDesk();
        desk.thing(0, 0, 3, 1, 12, 4, 0, 99);
        desk.thing(2, 2, 1, 1, 1, 1, 0, 99);
        desk.thing(10, 2, 1, 1, 1, 5, 0, 99);
        desk.picture(0, 4, 10, 0, 0);
        Due.say(desk, text);
        DUE.is("use", desk.use(2), 1);
        return desk.fit(2, 0, 50);
    }

    private static void tests() {
        String[] so = {"s=3", "s>2", "s<4", "k=4", "h=12", "h>9", "h<13", "n1=4", "n1<05", "n1>3", "s=03"};
        String[] not = {"s=2", "s>3", "s<3", "k=5", "h=1", "h>12", "h<12", "n1=3", "n1<4", "n1>4", "s=30"};
        String[] open = {"n0=1", "n2<99", "n3>0", "n4=4", "n5<10"};
        for (String text : so) DUE.is(text, fitOf(text), 2);
        for (String text : not) DUE.is(text, fitOf(text), 0);
        for (String text : open) DUE.is(text, fitOf(text), 1);
    }

    private static void joints() {
        String[] tests = {"s=1", "n0=1", "s=3"};
        for (int a = 0; a < 3; a++) {
            for (int b = 0; b < 3; b++) {
                DUE.is("both", fitOf(tests[a] + "&" + tests[b]), Math.min(a, b));
                DUE.is("either", fitOf(tests[a] + "|" + tests[b]), Math.max(a, b));
                for (int c = 0; c < 3; c++) {
                    DUE.is("a&b|c", fitOf(tests[a] + "&" + tests[b] + "|" + tests[c]), Math.max(Math.min(a, b), c));
                    DUE.is("a|b&c", fitOf(tests[a] + "|" + tests[b] + "&" + tests[c]), Math.max(a, Math.min(b, c)));
                }
            }
        }
    }

    private static void couldAndAll() {
        PictureDesk desk = new PictureDesk();
        desk.thing(0, 0, 2, 1, 12, 4, 5, 99);
        desk.thing(5, 5, 1, 1, 1, 1, 0, 99);
        Due.say(desk, "s=1");
        desk.use(0);
        Due.say(desk, "s=0");
        desk.use(1);
        Due.say(desk, "h>5");
        desk.use(3);
        DUE.is("no pictures", desk.could(0, 0), -6);
        desk.picture(0, 11, 99, 0, 0);
        desk.picture(0, 0, 7, 0, 0);
        desk.picture(0, 0, 3, 0, 0);
        DUE.is("the first day", desk.could(0, 0), 7);
        DUE.is("day 99", desk.could(0, 1), 99);
        DUE.is("day 0", desk.could(1, 0), 0);
        DUE.is("so first, not later", desk.fit(0, 0, 99), 0);
        DUE.is("never", desk.could(3, 1), -6);
        DUE.is("could, no text", desk.could(2, 0), -1);
        DUE.is("could, no use", desk.could(5, 0), -1);
        DUE.is("could, no thing", desk.could(0, 2), -1);
        DUE.is("fit, no text", desk.fit(2, 0, 100), -1);
        DUE.is("fit, no use", desk.fit(-1, 0, 0), -1);
        DUE.is("fit, no thing", desk.fit(0, 2, 0), -1);
        DUE.is("fit, day 100", desk.fit(0, 0, 100), -2);
        DUE.is("fit, day -1", desk.fit(0, 0, -1), -2);
        DUE.is("all, so", desk.all(3, 50, 2), 1);
        DUE.is("all, open", desk.all(3, 50, 1), 2);
        DUE.is("all, not", desk.all(3, 99, 0), 2);
        DUE.is("all, none", desk.all(3, 99, 1), 0);
        DUE.is("all, no text", desk.all(2, 100, 3), -1);
        DUE.is("all, no use", desk.all(5, 0, 0), -1);
        DUE.is("all, day 100", desk.all(0, 100, 0), -2);
        DUE.is("all, day -1", desk.all(0, -1, 0), -2);
        DUE.is("all, how 3", desk.all(0, 0, 3), -2);
        DUE.is("all, how -1", desk.all(0, 0, -1), -2);
        DUE.is("told(4)", desk.told(4), -2);
        DUE.is("told(-1)", desk.told(-1), -2);
        DUE.is("told(0)", desk.told(0), 2);
        DUE.is("told(1)", desk.told(1), 3);
        DUE.is("told(3)", desk.told(3), 11);
    }
}
