/** Promises 16 to 19: facts of things, and which uses they fit. */
final class FactsTest {
    private static final int NONE = -6, UNKNOWN = -1, OUTSIDE = -2;
    private static final int S = 0, K = 1, H = 2, N0 = 3, N1 = 4, N2 = 5, N3 = 6;

    public static void main(String[] args) {
        Due.run(FactsTest.class);
    }

    private static PictureDesk things(int many) {
        PictureDesk desk = new PictureDesk();
        for (int i = 0; i < many; i++) desk.thing(i, 0, 1, 1, 1, 0, 0, 99);
        return desk;
    }

    // ---- promise 16: s, k, h

    @Says("facts of a THING as PICTURES up to a DAY show it")
    static void promise16_upToADay() {
        PictureDesk desk = new PictureDesk();
        desk.thing(0, 0, 2, 1, 5, 3, 0, 99);
        desk.thing(4, 0, 1, 1, 5, 1, 0, 99);
        desk.picture(0, 11, 40, 0, 0);
        int[] whats = {S, K, H, N0, N1};
        int[] early = {0, NONE, NONE, NONE, NONE};
        int[] late = {2, 3, 5, 99, 4};
        for (int day : new int[] {0, 39, 40, 41, 99}) {
            for (int i = 0; i < 5; i++) Due.is("by " + day, desk.fact(0, day, whats[i]), day < 40 ? early[i] : late[i]);
        }
    }

    @Says("s how many CELLS in which it counts are shown (10 and its KIND) by some PICTURE")
    static void promise16_cellsShownBySomePicture() {
        PictureDesk desk = new PictureDesk();
        desk.thing(2, 2, 4, 3, 5, 3, 0, 99);
        Due.is("by none", desk.fact(0, 99, S), 0);
        desk.picture(0, 2, 10, 0, 0);
        Due.is("one column", desk.fact(0, 99, S), 3);
        desk.picture(2, 4, 20, 0, 0);
        Due.is("a cell that two show counts once", desk.fact(0, 99, S), 9);
        desk.picture(0, 11, 5, 0, 0);
        Due.is("all", desk.fact(0, 99, S), 12);
        Due.is("by the first alone", desk.fact(0, 5, S), 12);
        desk.cloud(2, 29, true);
        Due.is("under a cloud", desk.fact(0, 99, S), 11);
        desk.cloud(2, 28, true);
        Due.is("another one shows it", desk.fact(0, 99, S), 11);
        desk.cloud(1, 28, true);
        Due.is("none shows it", desk.fact(0, 99, S), 10);
    }

    @Says("s how many CELLS in which it counts are shown (10 and its KIND) by some PICTURE")
    static void promise16_cellsInWhichItCounts() {
        PictureDesk desk = new PictureDesk();
        desk.thing(2, 2, 4, 1, 5, 3, 10, 30);
        desk.thing(3, 2, 1, 1, 9, 3, 20, 30);
        desk.thing(2, 2, 4, 1, 5, 3, 10, 99);
        desk.picture(0, 11, 25, 0, 5);
        Due.is("but where a higher one counts", desk.fact(0, 99, S), 3);
        Due.is("the higher one", desk.fact(1, 99, S), 1);
        Due.is("of several the first alone", desk.fact(2, 99, S), 0);
        desk.picture(0, 11, 15, 0, 5);
        Due.is("before the higher one came", desk.fact(0, 99, S), 4);
        Due.is("by that day", desk.fact(0, 15, S), 4);
        desk.picture(0, 11, 31, 0, 5);
        Due.is("when the first one is gone", desk.fact(2, 99, S), 4);
        desk.picture(0, 11, 9, 0, 5);
        Due.is("before it came", desk.fact(0, 9, S), 0);
    }

    @Says("(a NETTED one shows nothing of itself, but its shadow falls)")
    static void promise16_aNettedOneIsNotShown() {
        PictureDesk desk = new PictureDesk();
        desk.thing(2, 2, 2, 2, 5, 3, 0, 99);
        desk.picture(0, 11, 10, 0, 20);
        desk.set(0, 9, 1);
        Due.is("s", desk.fact(0, 99, S), 0);
        Due.is("k", desk.fact(0, 99, K), NONE);
        desk.set(0, 9, 0);
        Due.is("s without the net", desk.fact(0, 99, S), 4);
    }

    @Says("k its KIND, h its HEIGHT, if s is above 0 (else not known)")
    static void promise16_kindAndHeight() {
        for (int kind = 0; kind < 6; kind++) {
            PictureDesk desk = new PictureDesk();
            desk.thing(0, 0, 2, 1, 20 - kind, kind, 0, 99);
            desk.picture(1, 1, 10, 0, 0);
            Due.is("k", desk.fact(0, 10, K), kind);
            Due.is("h", desk.fact(0, 10, H), 20 - kind);
            Due.is("k, not known", desk.fact(0, 9, K), NONE);
            Due.is("h, not known", desk.fact(0, 9, H), NONE);
            desk.cloud(0, 1, true);
            Due.is("k under a cloud", desk.fact(0, 10, K), NONE);
            Due.is("h under a cloud", desk.fact(0, 10, H), NONE);
        }
    }

    // ---- promise 16: n0 to n5

    @Says("the least distance (both differences, by size, together) from its first CELL")
    static void promise16_distancesEveryWay() {
        for (int cell = 0; cell < 96; cell++) {
            if (cell == 41) continue;
            PictureDesk desk = new PictureDesk();
            desk.thing(5, 3, 1, 1, 1, 0, 0, 99);
            desk.thing(cell % 12, cell / 12, 1, 1, 1, 2, 0, 99);
            desk.picture(0, 11, 0, 0, 0);
            int distance = Math.abs(cell % 12 - 5) + Math.abs(cell / 12 - 3);
            Due.is("n2, " + cell, desk.fact(0, 0, N2), distance);
            Due.is("n0 of the other one, " + cell, desk.fact(1, 0, N0), distance);
        }
    }

    @Says("the least distance (both differences, by size, together) from its first CELL")
    static void promise16_fromTheFirstCellToTheNearest() {
        PictureDesk desk = new PictureDesk();
        desk.thing(0, 0, 4, 4, 5, 0, 0, 99);
        desk.thing(5, 4, 3, 3, 5, 1, 0, 99);
        desk.thing(9, 0, 1, 1, 5, 1, 0, 99);
        desk.picture(0, 11, 10, 0, 0);
        Due.is("from its first cell, not its nearest", desk.fact(0, 10, N1), 9);
        Due.is("from the other's first to its nearest", desk.fact(1, 10, N0), 3);
        desk.cloud(0, 9, true);
        Due.is("a little farther", desk.fact(0, 10, N1), 9);
        desk.cloud(0, 53, true);
        Due.is("farther", desk.fact(0, 10, N1), 10);
    }

    @Says("to a CELL that some PICTURE shows as KIND 0 to 5 where another THING counts")
    static void promise16_eachKindByItself() {
        for (int kind = 0; kind < 6; kind++) {
            PictureDesk desk = new PictureDesk();
            desk.thing(0, 0, 1, 1, 1, 0, 0, 99);
            desk.thing(3, 0, 1, 1, 1, kind, 0, 99);
            desk.picture(0, 11, 10, 0, 0);
            for (int n = 0; n < 6; n++) Due.is("n" + n, desk.fact(0, 10, N0 + n), n == kind ? 3 : 99);
        }
    }

    @Says("to a CELL that some PICTURE shows as KIND 0 to 5 where another THING counts")
    static void promise16_itselfIsNoOther() {
        PictureDesk desk = new PictureDesk();
        desk.thing(4, 4, 3, 3, 1, 2, 0, 99);
        desk.picture(0, 11, 10, 0, 0);
        Due.is("none but itself", desk.fact(0, 10, N2), 99);
        desk.thing(11, 7, 1, 1, 1, 2, 0, 99);
        Due.is("another one of its kind", desk.fact(0, 10, N2), 10);
    }

    @Says("to a CELL that some PICTURE shows as KIND 0 to 5 where another THING counts")
    static void promise16_anotherOneOnItsOwnCells() {
        PictureDesk desk = new PictureDesk();
        desk.thing(4, 4, 2, 1, 5, 2, 0, 99);
        desk.thing(4, 4, 1, 1, 6, 3, 20, 20);
        desk.thing(5, 4, 1, 1, 5, 4, 0, 99);
        desk.picture(0, 11, 10, 0, 0);
        desk.picture(0, 11, 20, 0, 0);
        Due.is("a higher one on its first cell", desk.fact(0, 20, N3), 0);
        Due.is("not yet", desk.fact(0, 19, N3), 99);
        Due.is("from the higher one, on the other day", desk.fact(1, 20, N2), 0);
        Due.is("one that does not count there", desk.fact(0, 20, N0 + 4), 99);
    }

    @Says("to a CELL that some PICTURE shows as KIND 0 to 5 where another THING counts")
    static void promise16_shownBySomePicture() {
        PictureDesk desk = new PictureDesk();
        desk.thing(0, 0, 1, 1, 1, 0, 0, 99);
        desk.thing(6, 0, 1, 1, 1, 1, 0, 20);
        desk.thing(2, 0, 1, 1, 1, 1, 30, 99);
        desk.picture(0, 11, 10, 0, 0);
        desk.picture(0, 11, 30, 0, 0);
        Due.is("the far one first", desk.fact(0, 29, N1), 6);
        Due.is("then the near one", desk.fact(0, 30, N1), 2);
        desk.set(2, 9, 1);
        Due.is("the near one under a net", desk.fact(0, 30, N1), 6);
        desk.set(1, 9, 1);
        Due.is("both under nets", desk.fact(0, 30, N1), 99);
    }

    @Says("as long as some CELL no farther than 5 from its first one (on THE LAND) is covered by no PICTURE, else 99")
    static void promise16_aGapNoFartherThan5() {
        int[][] places = {{5, 3}, {0, 0}, {11, 7}, {0, 7}, {8, 4}};
        for (int[] place : places) {
            PictureDesk desk = new PictureDesk();
            desk.thing(place[0], place[1], 1, 1, 1, 0, 0, 99);
            desk.picture(0, 11, 10, 0, 0);
            Due.is("no gap on the land", desk.fact(0, 10, N1), 99);
            for (int cell = 0; cell < 96; cell++) {
                int distance = Math.abs(cell % 12 - place[0]) + Math.abs(cell / 12 - place[1]);
                desk.cloud(0, cell, true);
                Due.is("a gap at " + distance, desk.fact(0, 10, N1), distance <= 5 ? NONE : 99);
                desk.cloud(0, cell, false);
            }
        }
    }

    @Says("as long as some CELL no farther than 5 from its first one (on THE LAND) is covered by no PICTURE, else 99")
    static void promise16_aGapFromTheFirstCell() {
        PictureDesk desk = new PictureDesk();
        desk.thing(0, 0, 4, 4, 1, 0, 0, 99);
        desk.picture(0, 11, 10, 0, 0);
        desk.cloud(0, 51, true);
        Due.is("near its last cell alone", desk.fact(0, 10, N1), 99);
        desk.cloud(0, 38, true);
        Due.is("5 from its first cell", desk.fact(0, 10, N1), NONE);
    }

    @Says("is covered by no PICTURE, else 99")
    static void promise16_picturesTogetherLeaveNoGap() {
        PictureDesk desk = new PictureDesk();
        desk.thing(5, 3, 1, 1, 1, 0, 0, 99);
        desk.picture(0, 5, 10, 0, 0);
        desk.picture(6, 9, 20, 0, 0);
        desk.picture(10, 10, 30, 0, 0);
        Due.is("two of three", desk.fact(0, 29, N1), NONE);
        Due.is("all three", desk.fact(0, 30, N1), 99);
        desk.cloud(0, 41, true);
        Due.is("a cloud on itself", desk.fact(0, 30, N1), NONE);
        desk.picture(5, 5, 0, 0, 0);
        Due.is("another picture under it", desk.fact(0, 30, N1), 99);
    }

    @Says("if none does, not known, as long as some CELL no farther than 5")
    static void promise16_whatIsShownIsKnownBesideAGap() {
        PictureDesk desk = new PictureDesk();
        desk.thing(0, 0, 1, 1, 1, 0, 0, 99);
        desk.thing(11, 7, 1, 1, 1, 1, 0, 99);
        desk.picture(11, 11, 10, 0, 0);
        Due.is("far off", desk.fact(0, 10, N1), 18);
        Due.is("another kind", desk.fact(0, 10, N2), NONE);
    }

    @Says("NONE: not known.")
    static void promise16_NONE_notKnown() {
        PictureDesk desk = things(1);
        Due.is("s is always known", desk.fact(0, 99, S), 0);
        for (int what = K; what <= 8; what++) Due.is("fact " + what, desk.fact(0, 99, what), NONE);
    }

    @Says("0 s, 1 k, 2 h, 3 to 8 n0 to n5")
    static void promise16_OUTSIDE_what() {
        PictureDesk desk = things(1);
        Due.range(n -> desk.fact(n[0], n[1], n[2]), Due.of(0, 0, 0), 2, 0, 8, OUTSIDE);
    }

    @Says("DAYS are 0 to 99.")
    static void promise16_OUTSIDE_day() {
        PictureDesk desk = things(1);
        Due.range(n -> desk.fact(n[0], n[1], n[2]), Due.of(0, 0, 0), 1, 0, 99, OUTSIDE);
    }

    @Says("NONE: not known. UNKNOWN; OUTSIDE.")
    static void promise16_UNKNOWN_thing() {
        for (int many = 1; many <= 12; many++) {
            PictureDesk desk = things(many);
            Due.range(n -> desk.fact(n[0], n[1], n[2]), Due.of(0, 0, 0), 0, 0, many - 1, UNKNOWN);
        }
        Due.is("of none", new PictureDesk().fact(0, 0, 0), UNKNOWN);
    }

    @Says("Calls that are refused answer, the first of these that fits")
    static void promise16_UNKNOWN_aheadOfOUTSIDE() {
        Due.is("day 100", things(1).fact(1, 100, 0), UNKNOWN);
        Due.is("what 9", things(1).fact(1, 0, 9), UNKNOWN);
    }

    // ---- promise 17

    /** Of a thing of 3 cells, kind 4 and height 12, with one of kind 1 in 4 cells' distance and a gap beyond. */
    private static int fitOf(String text) {
        PictureDesk desk = new PictureDesk();
        desk.thing(0, 0, 3, 1, 12, 4, 0, 99);
        desk.thing(2, 2, 1, 1, 1, 1, 0, 99);
        desk.thing(10, 2, 1, 1, 1, 5, 0, 99);
        desk.picture(0, 4, 10, 0, 0);
        Due.is("use(2)", Due.use(desk, 2, text), 1);
        return desk.fit(2, 0, 50);
    }

    @Says("a TEST: a fact, then <, > or =, and 1 or 2 digits")
    static void promise17_lessMoreAndEqual() {
        String[] facts = {"s", "k", "h", "n1"};
        int[] values = {3, 4, 12, 4};
        for (int i = 0; i < 4; i++) for (int number = 0; number < 100; number++) {
            String digits = String.valueOf(number);
            Due.is(facts[i] + "<" + digits, fitOf(facts[i] + "<" + digits), values[i] < number ? 2 : 0);
            Due.is(facts[i] + ">" + digits, fitOf(facts[i] + ">" + digits), values[i] > number ? 2 : 0);
            Due.is(facts[i] + "=" + digits, fitOf(facts[i] + "=" + digits), values[i] == number ? 2 : 0);
        }
    }

    @Says("and 1 or 2 digits")
    static void promise17_twoDigitsThatBeginWith0() {
        Due.is("s=03", fitOf("s=03"), 2);
        Due.is("s=3", fitOf("s=3"), 2);
        Due.is("s=30", fitOf("s=30"), 0);
        Due.is("s>00", fitOf("s>00"), 2);
        Due.is("s<00", fitOf("s<00"), 0);
        Due.is("n1<05", fitOf("n1<05"), 2);
    }

    @Says("is covered by no PICTURE, else 99")
    static void promise17_testsOf99() {
        PictureDesk desk = things(1);
        desk.picture(0, 11, 0, 0, 0);
        String[] texts = {"n1=99", "n1>98", "n1<99", "n1>99"};
        int[] want = {2, 2, 0, 0};
        for (int i = 0; i < 4; i++) {
            Due.use(desk, 0, texts[i]);
            Due.is(texts[i], desk.fit(0, 0, 0), want[i]);
        }
    }

    @Says("A TEST of what is not known is OPEN")
    static void promise17_whatIsNotKnownIsOpen() {
        for (String text : new String[] {"n0=1", "n2<99", "n3>0", "n4=4", "n5<10", "n0<0", "n0>99"}) {
            Due.is(text, fitOf(text), 1);
        }
        PictureDesk desk = things(1);
        String[] texts = {"k=0", "h>0", "s>0", "s=0"};
        int[] want = {1, 1, 0, 2};
        for (int i = 0; i < 4; i++) {
            Due.use(desk, i, texts[i]);
            Due.is(texts[i], desk.fit(i, 0, 0), want[i]);
        }
    }

    /** Not, OPEN and so, each at its own number. */
    private static final String[] TESTS = {"s=1", "n0=1", "s=3"};

    @Says("a BOTH is not so, if one of it is not, else OPEN, if one is, else so")
    static void promise17_both() {
        for (int a = 0; a < 3; a++) for (int b = 0; b < 3; b++) {
            Due.is("two", fitOf(TESTS[a] + "&" + TESTS[b]), Math.min(a, b));
            for (int c = 0; c < 3; c++) {
                Due.is("three", fitOf(TESTS[a] + "&" + TESTS[b] + "&" + TESTS[c]), Math.min(a, Math.min(b, c)));
            }
        }
    }

    @Says("a USE is so, if a BOTH is, else OPEN, if one is, else not")
    static void promise17_use() {
        for (int a = 0; a < 3; a++) for (int b = 0; b < 3; b++) {
            Due.is("two", fitOf(TESTS[a] + "|" + TESTS[b]), Math.max(a, b));
            for (int c = 0; c < 3; c++) {
                Due.is("three", fitOf(TESTS[a] + "|" + TESTS[b] + "|" + TESTS[c]), Math.max(a, Math.max(b, c)));
            }
        }
    }

    @Says("one or more BOTHS with a | between two; a BOTH: one or more TESTS with a & between two")
    static void promise17_bothsWithin() {
        for (int a = 0; a < 3; a++) for (int b = 0; b < 3; b++) for (int c = 0; c < 3; c++) {
            Due.is("a&b|c", fitOf(TESTS[a] + "&" + TESTS[b] + "|" + TESTS[c]), Math.max(Math.min(a, b), c));
            Due.is("a|b&c", fitOf(TESTS[a] + "|" + TESTS[b] + "&" + TESTS[c]), Math.max(a, Math.min(b, c)));
        }
    }

    @Says("FIT of a USE and a THING by a DAY: 2 so, 1 OPEN, 0 not.")
    static void promise17_byADay() {
        PictureDesk desk = new PictureDesk();
        desk.thing(0, 0, 1, 1, 7, 0, 30, 40);
        desk.thing(1, 0, 1, 1, 8, 0, 0, 99);
        desk.picture(0, 11, 35, 0, 0);
        Due.use(desk, 0, "h=7");
        Due.is("the day ahead", desk.fit(0, 0, 34), 1);
        Due.is("the day", desk.fit(0, 0, 35), 2);
        Due.is("when the thing is gone", desk.fit(0, 0, 99), 2);
        Due.is("the other thing", desk.fit(0, 1, 35), 0);
    }

    @Says("FIT. UNKNOWN: also there is no such text; OUTSIDE.")
    static void promise17_OUTSIDE_day() {
        PictureDesk desk = things(1);
        Due.use(desk, 0, "s=0");
        Due.range(n -> desk.fit(n[0], n[1], n[2]), Due.of(0, 0, 0), 2, 0, 99, OUTSIDE);
    }

    private static PictureDesk withUses(int many) {
        PictureDesk desk = things(many);
        for (int use = 0; use < 5; use++) Due.use(desk, use, "s=0");
        return desk;
    }

    @Says("FIT. UNKNOWN: also there is no such text; OUTSIDE.")
    static void promise17_UNKNOWN_useOrThing() {
        PictureDesk desk = withUses(3);
        Due.range(n -> desk.fit(n[0], n[1], n[2]), Due.of(0, 0, 0), 0, 0, 4, UNKNOWN);
        Due.range(n -> desk.fit(n[0], n[1], n[2]), Due.of(0, 0, 0), 1, 0, 2, UNKNOWN);
        PictureDesk full = withUses(12);
        Due.range(n -> full.fit(n[0], n[1], n[2]), Due.of(0, 0, 0), 1, 0, 11, UNKNOWN);
    }

    @Says("FIT. UNKNOWN: also there is no such text; OUTSIDE.")
    static void promise17_UNKNOWN_noSuchText() {
        for (int use = 0; use < 5; use++) {
            PictureDesk desk = things(1);
            Due.use(desk, use, "s=0");
            for (int other = 0; other < 5; other++) {
                Due.is("fit(" + other + ", 0, 0)", desk.fit(other, 0, 0), other == use ? 2 : UNKNOWN);
            }
        }
    }

    @Says("Calls that are refused answer, the first of these that fits")
    static void promise17_UNKNOWN_aheadOfOUTSIDE() {
        Due.is("no text", things(1).fit(0, 0, 100), UNKNOWN);
        Due.is("no thing", withUses(1).fit(0, 1, 100), UNKNOWN);
        Due.is("no use", withUses(1).fit(5, 0, -1), UNKNOWN);
    }

    // ---- promise 18

    @Says("COULD: the first DAY by which it is 2.")
    static void promise18_everyDay() {
        for (int day = 0; day < 100; day++) {
            PictureDesk desk = withUses(1);
            Due.use(desk, 1, "s=1");
            desk.picture(0, 11, day, 0, 0);
            Due.is("s=1", desk.could(1, 0), day);
            Due.is("s=0, from the first day on", desk.could(0, 0), day == 0 ? NONE : 0);
        }
    }

    @Says("COULD: the first DAY by which it is 2.")
    static void promise18_theFirstOfSeveral() {
        PictureDesk desk = new PictureDesk();
        desk.thing(0, 0, 3, 1, 12, 4, 5, 99);
        Due.use(desk, 0, "s=1");
        Due.use(desk, 1, "s>1");
        desk.picture(0, 11, 99, 0, 0);
        desk.picture(0, 0, 7, 0, 0);
        desk.picture(1, 1, 50, 0, 0);
        desk.picture(0, 11, 4, 0, 0);
        Due.is("so once, not later", desk.could(0, 0), 7);
        Due.is("not so by then", desk.fit(0, 0, 50), 0);
        Due.is("not by one picture alone", desk.could(1, 0), 50);
    }

    @Says("COULD; NONE: not by DAY 99.")
    static void promise18_NONE_notByDay99() {
        PictureDesk desk = withUses(1);
        Due.use(desk, 0, "s=2");
        Due.use(desk, 1, "k=0");
        desk.picture(11, 11, 99, 0, 0);
        Due.is("not", desk.could(0, 0), NONE);
        Due.is("open", desk.could(1, 0), NONE);
        desk.cloud(0, 11, true);
        desk.picture(0, 0, 99, 0, 0);
        Due.is("by day 99", desk.could(1, 0), 99);
    }

    @Says("COULD; NONE: not by DAY 99. UNKNOWN.")
    static void promise18_UNKNOWN_useOrThing() {
        PictureDesk desk = withUses(3);
        Due.range(n -> desk.could(n[0], n[1]), Due.of(0, 0), 0, 0, 4, UNKNOWN);
        Due.range(n -> desk.could(n[0], n[1]), Due.of(0, 0), 1, 0, 2, UNKNOWN);
        Due.is("no text", things(1).could(0, 0), UNKNOWN);
    }

    // ---- promise 19

    @Says("THINGS for which a USE FITS so by a DAY (how: 0 to 2), as bits.")
    static void promise19_asBits() {
        PictureDesk desk = new PictureDesk();
        for (int i = 0; i < 12; i++) desk.thing(i, 0, 1, 1, 1 + i, 0, 0, 99);
        desk.picture(6, 11, 10, 0, 0);
        Due.use(desk, 0, "h>8");
        Due.is("so, from 9 on", desk.all(0, 10, 2), 0xf00);
        Due.is("open, not covered", desk.all(0, 10, 1), 0x03f);
        Due.is("not", desk.all(0, 10, 0), 0x0c0);
        Due.is("open by day 9", desk.all(0, 9, 1), 0xfff);
        Due.is("none so by day 9", desk.all(0, 9, 2), 0);
        Due.use(desk, 1, "h=12");
        Due.is("the last one alone", desk.all(1, 10, 2), 0x800);
        Due.use(desk, 2, "s=0");
        Due.is("the first ones", desk.all(2, 99, 2), 0x03f);
        Due.is("the others", desk.all(2, 99, 0), 0xfc0);
    }

    @Says("THINGS for which a USE FITS so by a DAY (how: 0 to 2), as bits.")
    static void promise19_noThings() {
        PictureDesk desk = withUses(0);
        for (int how = 0; how < 3; how++) Due.is("all", desk.all(0, 0, how), 0);
    }

    @Says("THINGS for which a USE FITS so by a DAY (how: 0 to 2), as bits.")
    static void promise19_OUTSIDE_how() {
        PictureDesk desk = withUses(1);
        Due.range(n -> desk.all(n[0], n[1], n[2]), Due.of(0, 0, 0), 2, 0, 2, OUTSIDE);
    }

    @Says("DAYS are 0 to 99.")
    static void promise19_OUTSIDE_day() {
        PictureDesk desk = withUses(1);
        Due.range(n -> desk.all(n[0], n[1], n[2]), Due.of(0, 0, 0), 1, 0, 99, OUTSIDE);
    }

    @Says("(how: 0 to 2), as bits. UNKNOWN; OUTSIDE.")
    static void promise19_UNKNOWN_use() {
        PictureDesk desk = withUses(1);
        Due.range(n -> desk.all(n[0], n[1], n[2]), Due.of(0, 0, 0), 0, 0, 4, UNKNOWN);
        for (int use = 0; use < 5; use++) Due.is("no text", things(1).all(use, 0, 0), UNKNOWN);
    }

    @Says("Calls that are refused answer, the first of these that fits")
    static void promise19_UNKNOWN_aheadOfOUTSIDE() {
        Due.is("day 100", things(1).all(0, 100, 0), UNKNOWN);
        Due.is("how 3", things(1).all(5, 0, 3), UNKNOWN);
    }
}
