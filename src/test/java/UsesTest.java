/** Promises 12 to 15: signs and the texts of uses. */
final class UsesTest {
    private static final int NONE = -6, UNKNOWN = -1, OUTSIDE = -2, FULL = -4, NO = -5;
    private static final String NINE = "s>1&s>1&s>1&s>1&s>1&s>1&s>1&s>1&s>1&";

    public static void main(String[] args) {
        Due.run(UsesTest.class);
    }

    private static int faultOf(String text) {
        PictureDesk desk = new PictureDesk();
        Due.say(desk, text);
        return desk.fault();
    }

    // ---- promise 12

    @Says("A sign more: how many.")
    static void promise12_howMany() {
        PictureDesk desk = new PictureDesk();
        for (int i = 1; i <= 40; i++) {
            Due.is("say", desk.say(32 + i), i);
            Due.is("told(2)", desk.told(2), i);
        }
    }

    @Says("codes 33 to 126")
    static void promise12_OUTSIDE_codes() {
        Due.range(n -> new PictureDesk().say(n[0]), Due.of(0), 0, 33, 126, OUTSIDE);
    }

    @Says("They change nothing.")
    static void promise12_OUTSIDE_isNoSign() {
        PictureDesk desk = new PictureDesk();
        Due.say(desk, "s>1");
        Due.is("a blank", desk.say(' '), OUTSIDE);
        Due.is("told(2)", desk.told(2), 3);
        Due.is("the text is as it was", desk.fault(), NONE);
    }

    @Says("texts of up to 40 signs")
    static void promise12_FULL_40Signs() {
        PictureDesk desk = new PictureDesk();
        Due.say(desk, NINE + "s>12");
        Due.is("told(2)", desk.told(2), 40);
        for (int i = 0; i < 3; i++) Due.is("one more", desk.say('&'), FULL);
        Due.is("told(2)", desk.told(2), 40);
        Due.is("the text is as it was", desk.fault(), NONE);
        Due.is("use(0)", desk.use(0), 1);
        Due.is("room again", desk.say('s'), 1);
    }

    @Says("Calls that are refused answer, the first of these that fits")
    static void promise12_FULL_behindOUTSIDE() {
        PictureDesk desk = new PictureDesk();
        Due.say(desk, NINE + "s>12");
        Due.is("say(32)", desk.say(32), OUTSIDE);
        Due.is("say(127)", desk.say(127), OUTSIDE);
    }

    // ---- promise 13

    @Says("Signs go: how many there were.")
    static void promise13_howManyThereWere() {
        for (int many = 0; many <= 40; many++) {
            PictureDesk desk = new PictureDesk();
            for (int i = 0; i < many; i++) desk.say('x');
            Due.is("wipe()", desk.wipe(), many);
            Due.is("told(2)", desk.told(2), 0);
            Due.is("wipe() again", desk.wipe(), 0);
            Due.is("the first sign again", desk.say('s'), 1);
            Due.is("nothing of the old ones", desk.fault(), 1);
        }
    }

    @Says("Signs go: how many there were.")
    static void promise13_usesStay() {
        PictureDesk desk = new PictureDesk();
        desk.thing(0, 0, 1, 1, 1, 0, 0, 0);
        Due.use(desk, 2, "s=0");
        Due.say(desk, "s=1");
        desk.wipe();
        Due.is("told(3)", desk.told(3), 4);
        Due.is("fit", desk.fit(2, 0, 0), 2);
    }

    // ---- promise 14

    @Says("THE FAULT; NONE.")
    static void promise14_NONE_wholeTexts() {
        String[] good = {"s>1", "k=05", "h<20", "n0<9", "n5=99", "s>1&k=2", "s>1|k=2", "s>1|k=2&h>10|n3<4", "s=00"};
        for (String text : good) Due.is("fault of " + text, faultOf(text), NONE);
        Due.is("40 signs", faultOf(NINE + "s>12"), NONE);
    }

    @Says("behind the last sign: their number")
    static void promise14_noSigns() {
        Due.is("nothing", faultOf(""), 0);
    }

    @Says("behind the last sign: their number")
    static void promise14_behindTheLastSign() {
        String text = "n3<12&k=0|h>7";
        for (int i = 0; i <= text.length(); i++) {
            boolean isWhole = i == 4 || i == 5 || i == 9 || i == 13;
            Due.is("fault of " + text.substring(0, i), faultOf(text.substring(0, i)), isWhole ? NONE : i);
        }
        Due.is("40 signs that do not end", faultOf(NINE + "s>1&"), 40);
        Due.is("40 signs that end with n0", faultOf("s>12&" + NINE.substring(4) + "n0<"), 40);
    }

    @Says("the first place (from 0 on")
    static void promise14_theFirstOfSeveral() {
        Due.is("at 0", faultOf("x>1&y"), 0);
        Due.is("at 2", faultOf("s>>1&y"), 2);
        Due.is("at 4", faultOf("s>123|||"), 4);
        Due.is("good signs behind it change nothing", faultOf("s1>1&s>1"), 1);
    }

    @Says("a TEST: a fact, then <, > or =, and 1 or 2 digits")
    static void promise14_whatMayStandFirst() {
        for (char c = 33; c < 127; c++) {
            boolean isFact = "skhn".indexOf(c) >= 0;
            Due.is("first " + c, faultOf("" + c), isFact ? 1 : 0);
            Due.is("behind & " + c, faultOf("s=1&" + c), isFact ? 5 : 4);
            Due.is("behind | " + c, faultOf("s=1|" + c), isFact ? 5 : 4);
        }
    }

    @Says("n0 to n5")
    static void promise14_whatMayStandBehindN() {
        for (char c = 33; c < 127; c++) {
            Due.is("behind n " + c, faultOf("n" + c), c >= '0' && c <= '5' ? 2 : 1);
        }
    }

    @Says("a TEST: a fact, then <, > or =, and 1 or 2 digits")
    static void promise14_whatMayStandBehindAFact() {
        for (String fact : new String[] {"s", "k", "h", "n0", "n5"}) {
            for (char c = 33; c < 127; c++) {
                boolean isRelation = "<>=".indexOf(c) >= 0;
                Due.is("behind " + fact + " " + c, faultOf(fact + c), fact.length() + (isRelation ? 1 : 0));
            }
        }
    }

    @Says("and 1 or 2 digits")
    static void promise14_oneOrTwoDigits() {
        for (char c = 33; c < 127; c++) {
            boolean isDigit = c >= '0' && c <= '9';
            boolean isJoint = c == '&' || c == '|';
            for (char relation : "<>=".toCharArray()) {
                Due.is("none, then " + c, faultOf("s" + relation + c), isDigit ? NONE : 2);
            }
            Due.is("one, then " + c, faultOf("s=1" + c), isDigit ? NONE : isJoint ? 4 : 3);
            Due.is("two, then " + c, faultOf("s=12" + c), isJoint ? 5 : 4);
        }
    }

    @Says("THE FAULT; NONE.")
    static void promise14_changesNothing() {
        PictureDesk desk = new PictureDesk();
        Due.say(desk, "s>x");
        Due.is("fault()", desk.fault(), 2);
        Due.is("fault() again", desk.fault(), 2);
        Due.is("told(2)", desk.told(2), 3);
    }

    // ---- promise 15

    @Says("1 (0: there was one)")
    static void promise15_whetherThereWasOne() {
        PictureDesk desk = new PictureDesk();
        for (int use = 4; use >= 0; use--) Due.is("new", Due.use(desk, use, "s>1"), 1);
        for (int use = 0; use < 5; use++) Due.is("another text", Due.use(desk, use, "k=1"), 0);
        Due.is("the same text", Due.use(desk, 0, "k=1"), 0);
    }

    @Says("A USE is the text (the signs are empty then)")
    static void promise15_theSignsAreEmptyThen() {
        PictureDesk desk = new PictureDesk();
        Due.is("use(1)", Due.use(desk, 1, "s>1"), 1);
        Due.is("told(2)", desk.told(2), 0);
        Due.is("told(3)", desk.told(3), 2);
        Due.is("the first sign again", desk.say('h'), 1);
        Due.is("fault()", desk.fault(), 1);
    }

    @Says("A USE is the text (the signs are empty then)")
    static void promise15_eachHasItsOwnText() {
        PictureDesk desk = new PictureDesk();
        desk.thing(0, 0, 1, 1, 1, 0, 0, 0);
        String[] texts = {"s=0", "s=1", "k=0", "s=1|s=0", "s=1&s=0"};
        int[] fits = {2, 0, 1, 2, 0};
        for (int use = 0; use < 5; use++) Due.use(desk, use, texts[use]);
        for (int use = 0; use < 5; use++) Due.is("use " + use, desk.fit(use, 0, 0), fits[use]);
    }

    @Says("A USE is the text (the signs are empty then)")
    static void promise15_aShorterTextTakesTheOldOnesPlace() {
        PictureDesk desk = new PictureDesk();
        desk.thing(0, 0, 1, 1, 1, 0, 0, 0);
        Due.use(desk, 4, "s=1|s=0");
        Due.is("the longer one", desk.fit(4, 0, 0), 2);
        Due.is("use(4)", Due.use(desk, 4, "s=1"), 0);
        Due.is("the shorter one", desk.fit(4, 0, 0), 0);
        Due.is("use(4)", Due.use(desk, 4, "s=01|s=00"), 0);
        Due.is("a longer one again", desk.fit(4, 0, 0), 2);
    }

    @Says("texts of up to 40 signs")
    static void promise15_aTextOf40Signs() {
        PictureDesk desk = new PictureDesk();
        desk.thing(0, 0, 1, 1, 1, 0, 0, 0);
        String eight = "s>1|s>1|s>1|s>1|s>1|s>1|s>1|s>1|s>1|";
        Due.is("use(0)", Due.use(desk, 0, eight + "s=00"), 1);
        Due.is("its last test is so", desk.fit(0, 0, 0), 2);
        Due.is("use(0)", Due.use(desk, 0, eight + "s=01"), 0);
        Due.is("its last test is not so", desk.fit(0, 0, 0), 0);
    }

    @Says("UNKNOWN: 0 to 4; NO: there is a FAULT.")
    static void promise15_UNKNOWN_0To4() {
        Due.range(n -> Due.use(new PictureDesk(), n[0], "s>1"), Due.of(0), 0, 0, 4, UNKNOWN);
    }

    @Says("They change nothing.")
    static void promise15_UNKNOWN_changesNothing() {
        PictureDesk desk = new PictureDesk();
        Due.is("use(5)", Due.use(desk, 5, "s>1"), UNKNOWN);
        Due.is("use(-1)", desk.use(-1), UNKNOWN);
        Due.is("the signs stay", desk.told(2), 3);
        Due.is("no use", desk.told(3), 0);
        Due.is("use(0)", desk.use(0), 1);
    }

    @Says("Calls that are refused answer, the first of these that fits")
    static void promise15_UNKNOWN_aheadOfNO() {
        Due.is("no signs", new PictureDesk().use(5), UNKNOWN);
        Due.is("a fault", Due.use(new PictureDesk(), -1, "x"), UNKNOWN);
    }

    @Says("NO: there is a FAULT.")
    static void promise15_NO_aFault() {
        for (String text : new String[] {"s", "s>", "x", "s>1&", "s>1|", "n", "n6>1", "s>123", "s>1&&k=1", "|s>1"}) {
            PictureDesk desk = new PictureDesk();
            Due.is(text, Due.use(desk, 0, text), NO);
            Due.is("the signs stay", desk.told(2), text.length());
            Due.is("no use", desk.told(3), 0);
        }
    }

    @Says("NO: there is a FAULT.")
    static void promise15_NO_noSigns() {
        PictureDesk desk = new PictureDesk();
        Due.is("use(0)", desk.use(0), NO);
        Due.use(desk, 0, "s>1");
        Due.is("use(0) again", desk.use(0), NO);
        Due.is("told(3)", desk.told(3), 1);
    }

    @Says("They change nothing.")
    static void promise15_NO_theOldTextStays() {
        PictureDesk desk = new PictureDesk();
        desk.thing(0, 0, 1, 1, 1, 0, 0, 0);
        Due.use(desk, 3, "s=0");
        Due.is("a fault", Due.use(desk, 3, "s=1&"), NO);
        Due.is("the old text", desk.fit(3, 0, 0), 2);
        Due.is("the signs stay", desk.told(2), 4);
        Due.say(desk, "s=0");
        Due.is("they go on", desk.use(3), 0);
        Due.is("the new text", desk.fit(3, 0, 0), 0);
    }
}
