/** The land and promises 1 to 5: a new object, things. */
final class ThingsTest {
    private static final int NONE = -6, UNKNOWN = -1, OUTSIDE = -2, FULL = -4;
    private static final int[] SMALL = {3, 2, 1, 1, 5, 1, 10, 20};

    public static void main(String[] args) {
        Due.run(ThingsTest.class);
    }

    private static int put(PictureDesk desk, int... n) {
        return desk.thing(n[0], n[1], n[2], n[3], n[4], n[5], n[6], n[7]);
    }

    private static long putNew(int... n) {
        return put(new PictureDesk(), n);
    }

    private static PictureDesk deskOf(int many) {
        PictureDesk desk = new PictureDesk();
        for (int i = 0; i < many; i++) put(desk, i, 0, 1, 1, 1, 0, 0, 99);
        return desk;
    }

    // ---- promise 1

    @Says("No THINGS, PICTURES, USES.")
    static void promise01_noThings() {
        PictureDesk desk = new PictureDesk();
        Due.is("told(0)", desk.told(0), 0);
        Due.is("of(0, 0)", desk.of(0, 0), UNKNOWN);
        for (int cell = 0; cell < 96; cell++) Due.is("at " + cell, desk.at(cell, 0), NONE);
    }

    @Says("No THINGS, PICTURES, USES.")
    static void promise01_noPictures() {
        PictureDesk desk = new PictureDesk();
        Due.is("told(1)", desk.told(1), 0);
        for (int picture = 0; picture < 10; picture++) Due.is("shows", desk.shows(picture, 0), UNKNOWN);
    }

    @Says("No THINGS, PICTURES, USES.")
    static void promise01_noUses() {
        PictureDesk desk = deskOf(1);
        Due.is("told(3)", desk.told(3), 0);
        for (int use = 0; use < 5; use++) {
            Due.is("fit", desk.fit(use, 0, 0), UNKNOWN);
            Due.is("could", desk.could(use, 0), UNKNOWN);
            Due.is("all", desk.all(use, 0, 0), UNKNOWN);
        }
    }

    @Says("texts of up to 40 signs (none at first")
    static void promise01_noSigns() {
        Due.is("told(2)", new PictureDesk().told(2), 0);
        Due.is("wipe()", new PictureDesk().wipe(), 0);
    }

    @Says("No THINGS, PICTURES, USES.")
    static void promise01_eachObjectHasItsOwn() {
        PictureDesk desk = deskOf(3);
        desk.picture(0, 11, 0, 0, 0);
        Due.use(desk, 0, "s>1");
        desk.say('s');
        PictureDesk other = new PictureDesk();
        for (int what = 0; what < 4; what++) Due.is("told(" + what + ")", other.told(what), 0);
        Due.is("the first one's", desk.told(0), 3);
    }

    // ---- promise 2

    @Says("A THING: its number.")
    static void promise02_numberedFrom0On() {
        PictureDesk desk = new PictureDesk();
        for (int i = 0; i < 12; i++) {
            Due.is("thing", put(desk, SMALL), i);
            Due.is("told(0)", desk.told(0), i + 1);
        }
    }

    @Says("CELLS x 0 to 11 (to the east), y 0 to 7 (to the south)")
    static void promise02_OUTSIDE_x() {
        Due.range(ThingsTest::putNew, SMALL, 0, 0, 11, OUTSIDE);
    }

    @Says("CELLS x 0 to 11 (to the east), y 0 to 7 (to the south)")
    static void promise02_OUTSIDE_y() {
        Due.range(ThingsTest::putNew, SMALL, 1, 0, 7, OUTSIDE);
    }

    @Says("CELLS from x, y on, wide (1 to 4) and long (1 to 4), all on THE LAND")
    static void promise02_OUTSIDE_wide() {
        Due.range(ThingsTest::putNew, SMALL, 2, 1, 4, OUTSIDE);
    }

    @Says("CELLS from x, y on, wide (1 to 4) and long (1 to 4), all on THE LAND")
    static void promise02_OUTSIDE_long() {
        Due.range(ThingsTest::putNew, SMALL, 3, 1, 4, OUTSIDE);
    }

    @Says("a HEIGHT (1 to 20)")
    static void promise02_OUTSIDE_height() {
        Due.range(ThingsTest::putNew, SMALL, 4, 1, 20, OUTSIDE);
    }

    @Says("a KIND (0 to 5)")
    static void promise02_OUTSIDE_kind() {
        Due.range(ThingsTest::putNew, SMALL, 5, 0, 5, OUTSIDE);
    }

    @Says("DAYS are 0 to 99.")
    static void promise02_OUTSIDE_since() {
        Due.range(ThingsTest::putNew, Due.of(3, 2, 1, 1, 5, 1, 0, 99), 6, 0, 99, OUTSIDE);
    }

    @Says("DAYS are 0 to 99.")
    static void promise02_OUTSIDE_till() {
        Due.range(ThingsTest::putNew, Due.of(3, 2, 1, 1, 5, 1, 0, 0), 7, 0, 99, OUTSIDE);
    }

    @Says("OUTSIDE: also beyond THE LAND, since above till")
    static void promise02_OUTSIDE_beyondTheLandInTheEast() {
        for (int wide = 1; wide <= 4; wide++) {
            Due.range(ThingsTest::putNew, Due.of(0, 7, wide, 1, 1, 0, 0, 0), 0, 0, 12 - wide, OUTSIDE);
        }
    }

    @Says("OUTSIDE: also beyond THE LAND, since above till")
    static void promise02_OUTSIDE_beyondTheLandInTheSouth() {
        for (int length = 1; length <= 4; length++) {
            Due.range(ThingsTest::putNew, Due.of(11, 0, 1, length, 1, 0, 0, 0), 1, 0, 8 - length, OUTSIDE);
        }
    }

    @Says("OUTSIDE: also beyond THE LAND, since above till")
    static void promise02_OUTSIDE_sinceAboveTill() {
        for (int day = 0; day < 99; day++) {
            Due.is("since a day above till", putNew(0, 0, 1, 1, 1, 0, day + 1, day), OUTSIDE);
            Due.is("since till one day", putNew(0, 0, 1, 1, 1, 0, day, day), 0);
            Due.is("since a day below till", putNew(0, 0, 1, 1, 1, 0, day, day + 1), 0);
        }
        Due.is("since 99 till 0", putNew(0, 0, 1, 1, 1, 0, 99, 0), OUTSIDE);
    }

    @Says("OUTSIDE: also beyond THE LAND, since above till")
    static void promise02_OUTSIDE_takesNoNumber() {
        PictureDesk desk = deskOf(1);
        Due.is("outside", put(desk, 12, 0, 1, 1, 1, 0, 0, 0), OUTSIDE);
        Due.is("told(0)", desk.told(0), 1);
        Due.is("the next number", put(desk, SMALL), 1);
    }

    @Says("THINGS, 12 at most, numbered from 0 on")
    static void promise02_FULL_12AtMost() {
        PictureDesk desk = deskOf(12);
        for (int i = 0; i < 3; i++) Due.is("one more", put(desk, SMALL), FULL);
        Due.is("told(0)", desk.told(0), 12);
        for (int i = 0; i < 12; i++) Due.is("the first ones stay", desk.of(i, 0), i);
    }

    @Says("Calls that are refused answer, the first of these that fits")
    static void promise02_FULL_behindOUTSIDE() {
        PictureDesk desk = deskOf(12);
        Due.is("height 0", put(desk, 0, 0, 1, 1, 0, 0, 0, 0), OUTSIDE);
        Due.is("beyond the land", put(desk, 11, 0, 2, 1, 1, 0, 0, 0), OUTSIDE);
        Due.is("since above till", put(desk, 0, 0, 1, 1, 1, 0, 1, 0), OUTSIDE);
    }

    // ---- promise 3

    @Says("0 x, 1 y, 2 wide, 3 long, 4 HEIGHT, 5 KIND, 6 since, 7 till, 8 FACING, 9 whether NETTED, 10 whether WANTED")
    static void promise03_eachOfEleven() {
        PictureDesk desk = deskOf(1);
        put(desk, 3, 2, 4, 1, 7, 5, 11, 22);
        int[] want = {3, 2, 4, 1, 7, 5, 11, 22, 8, 0, 0};
        for (int what = 0; what < 11; what++) Due.is("of(1, " + what + ")", desk.of(1, what), want[what]);
        desk.set(1, 8, 6);
        desk.set(1, 9, 1);
        Due.is("FACING", desk.of(1, 8), 6);
        Due.is("NETTED", desk.of(1, 9), 1);
        Due.is("not WANTED", desk.of(1, 10), 0);
        desk.set(1, 9, 0);
        desk.set(1, 10, 1);
        Due.is("not NETTED", desk.of(1, 9), 0);
        Due.is("WANTED", desk.of(1, 10), 1);
        Due.is("the other one's", desk.of(0, 10), 0);
    }

    @Says("a FACING (0 to 7: north, north-east, and so on round; 8: none), NETTED or not (not at first)")
    static void promise03_atFirst() {
        PictureDesk desk = deskOf(12);
        for (int i = 0; i < 12; i++) {
            Due.is("FACING", desk.of(i, 8), 8);
            Due.is("NETTED", desk.of(i, 9), 0);
            Due.is("WANTED", desk.of(i, 10), 0);
        }
    }

    @Says("UNKNOWN; OUTSIDE.")
    static void promise03_OUTSIDE_what() {
        PictureDesk desk = deskOf(1);
        Due.range(n -> desk.of(n[0], n[1]), Due.of(0, 0), 1, 0, 10, OUTSIDE);
    }

    @Says("UNKNOWN; OUTSIDE.")
    static void promise03_UNKNOWN_thing() {
        for (int many = 0; many <= 12; many++) {
            PictureDesk desk = deskOf(many);
            if (many == 0) Due.is("of none", desk.of(0, 0), UNKNOWN);
            else Due.range(n -> desk.of(n[0], n[1]), Due.of(0, 0), 0, 0, many - 1, UNKNOWN);
        }
    }

    @Says("Calls that are refused answer, the first of these that fits")
    static void promise03_UNKNOWN_aheadOfOUTSIDE() {
        Due.is("of(1, 11)", deskOf(1).of(1, 11), UNKNOWN);
        Due.is("of(-1, -1)", deskOf(1).of(-1, -1), UNKNOWN);
    }

    // ---- promise 4

    @Says("FACING (what = 8), NETTED (9), WANTED (10; 1, 0): which it was.")
    static void promise04_whichItWas() {
        PictureDesk desk = deskOf(2);
        int before = 8;
        for (int way : new int[] {0, 7, 3, 3, 8, 1, 2, 4, 5, 6}) {
            Due.is("FACING", desk.set(0, 8, way), before);
            Due.is("it is", desk.of(0, 8), way);
            before = way;
        }
        for (int what = 9; what <= 10; what++) {
            Due.is("first", desk.set(0, what, 1), 0);
            Due.is("again", desk.set(0, what, 1), 1);
            Due.is("away", desk.set(0, what, 0), 1);
            Due.is("away again", desk.set(0, what, 0), 0);
        }
        for (int what = 8; what <= 10; what++) Due.is("the other one's", desk.of(1, what), what == 8 ? 8 : 0);
    }

    @Says("FACING (what = 8), NETTED (9), WANTED (10; 1, 0): which it was.")
    static void promise04_eachByItself() {
        PictureDesk desk = deskOf(1);
        desk.set(0, 8, 1);
        Due.is("not NETTED by its FACING", desk.of(0, 9), 0);
        desk.set(0, 9, 1);
        Due.is("not WANTED by its net", desk.of(0, 10), 0);
        desk.set(0, 10, 1);
        desk.set(0, 9, 0);
        Due.is("FACING", desk.of(0, 8), 1);
        Due.is("WANTED", desk.of(0, 10), 1);
    }

    @Says("a FACING (0 to 7: north, north-east, and so on round; 8: none)")
    static void promise04_OUTSIDE_facing() {
        PictureDesk desk = deskOf(1);
        Due.range(n -> desk.set(n[0], n[1], n[2]), Due.of(0, 8, 0), 2, 0, 8, OUTSIDE);
    }

    @Says("WANTED (10; 1, 0)")
    static void promise04_OUTSIDE_netAndWant() {
        PictureDesk desk = deskOf(1);
        Due.range(n -> desk.set(n[0], n[1], n[2]), Due.of(0, 9, 0), 2, 0, 1, OUTSIDE);
        Due.range(n -> desk.set(n[0], n[1], n[2]), Due.of(0, 10, 0), 2, 0, 1, OUTSIDE);
    }

    @Says("FACING (what = 8), NETTED (9), WANTED (10; 1, 0): which it was.")
    static void promise04_OUTSIDE_what() {
        PictureDesk desk = deskOf(1);
        Due.range(n -> desk.set(n[0], n[1], n[2]), Due.of(0, 8, 1), 1, 8, 10, OUTSIDE);
    }

    @Says("They change nothing.")
    static void promise04_OUTSIDE_changesNothing() {
        PictureDesk desk = deskOf(1);
        desk.set(0, 8, 3);
        desk.set(0, 10, 1);
        int[][] refused = {{8, 9}, {8, -1}, {9, 2}, {9, -1}, {10, 2}, {10, -1}, {7, 1}, {0, 1}, {11, 1}, {4, 9}};
        for (int[] n : refused) Due.is("set(0, " + n[0] + ", " + n[1] + ")", desk.set(0, n[0], n[1]), OUTSIDE);
        int[] want = {0, 0, 1, 1, 1, 0, 0, 99, 3, 0, 1};
        for (int what = 0; what < 11; what++) Due.is("of(0, " + what + ")", desk.of(0, what), want[what]);
    }

    @Says("UNKNOWN; OUTSIDE.")
    static void promise04_UNKNOWN_thing() {
        for (int many = 1; many <= 12; many++) {
            PictureDesk desk = deskOf(many);
            Due.range(n -> desk.set(n[0], n[1], n[2]), Due.of(0, 8, 1), 0, 0, many - 1, UNKNOWN);
        }
        Due.is("of none", new PictureDesk().set(0, 8, 1), UNKNOWN);
    }

    @Says("Calls that are refused answer, the first of these that fits")
    static void promise04_UNKNOWN_aheadOfOUTSIDE() {
        Due.is("what 11", deskOf(1).set(1, 11, 0), UNKNOWN);
        Due.is("v 9", deskOf(1).set(-1, 8, 9), UNKNOWN);
    }

    // ---- promise 5

    @Says("CELL number: 12 y and x")
    static void promise05_cellNumbers() {
        for (int x = 0; x < 12; x++) for (int y = 0; y < 8; y++) {
            PictureDesk desk = new PictureDesk();
            put(desk, x, y, 1, 1, 1, 0, 0, 0);
            for (int cell = 0; cell < 96; cell++) Due.is("at " + cell, desk.at(cell, 0), cell == 12 * y + x ? 0 : NONE);
        }
    }

    @Says("CELLS from x, y on, wide (1 to 4) and long (1 to 4), all on THE LAND")
    static void promise05_allItsCells() {
        for (int wide = 1; wide <= 4; wide++) for (int length = 1; length <= 4; length++) {
            liesOn(0, 0, wide, length);
            liesOn(12 - wide, 8 - length, wide, length);
            liesOn(5, 2, wide, length);
        }
    }

    private static void liesOn(int x, int y, int wide, int length) {
        PictureDesk desk = new PictureDesk();
        put(desk, x, y, wide, length, 1, 0, 0, 0);
        for (int cell = 0; cell < 96; cell++) {
            int east = cell % 12 - x, south = cell / 12 - y;
            boolean isIn = east >= 0 && east < wide && south >= 0 && south < length;
            Due.is("at " + cell, desk.at(cell, 0), isIn ? 0 : NONE);
        }
    }

    @Says("since a DAY till another one (both counted)")
    static void promise05_bothDaysCounted() {
        int[][] spans = {{10, 20}, {0, 0}, {99, 99}, {0, 99}, {50, 50}};
        for (int[] span : spans) {
            PictureDesk desk = new PictureDesk();
            put(desk, 4, 4, 1, 1, 1, 0, span[0], span[1]);
            for (int day = 0; day < 100; day++) {
                Due.is("on " + day, desk.at(52, day), day >= span[0] && day <= span[1] ? 0 : NONE);
            }
        }
    }

    @Says("In one CELL the THING of the greatest HEIGHT counts (that is there on a DAY; of several the first).")
    static void promise05_theGreatestHeightCounts() {
        for (int low = 1; low < 20; low++) {
            PictureDesk desk = new PictureDesk();
            put(desk, 0, 0, 1, 1, low, 0, 0, 99);
            put(desk, 0, 0, 1, 1, low + 1, 0, 0, 99);
            put(desk, 0, 0, 1, 1, low, 0, 0, 99);
            Due.is("the second one", desk.at(0, 0), 1);
        }
    }

    @Says("In one CELL the THING of the greatest HEIGHT counts (that is there on a DAY; of several the first).")
    static void promise05_thatIsThereOnTheDay() {
        PictureDesk desk = new PictureDesk();
        put(desk, 0, 0, 2, 2, 5, 0, 10, 40);
        put(desk, 1, 1, 2, 2, 9, 0, 20, 30);
        Due.is("before the higher one comes", desk.at(13, 19), 0);
        Due.is("when it comes", desk.at(13, 20), 1);
        Due.is("its last day", desk.at(13, 30), 1);
        Due.is("when it is gone", desk.at(13, 31), 0);
        Due.is("when both are gone", desk.at(13, 41), NONE);
        Due.is("where the higher one does not lie", desk.at(12, 25), 0);
    }

    @Says("In one CELL the THING of the greatest HEIGHT counts (that is there on a DAY; of several the first).")
    static void promise05_ofSeveralTheFirst() {
        PictureDesk desk = new PictureDesk();
        for (int i = 0; i < 12; i++) put(desk, 0, 0, 1, 1, 7, 0, i == 0 ? 50 : i, 99);
        for (int day = 1; day < 50; day++) Due.is("on " + day, desk.at(0, day), 1);
        Due.is("when the first one comes", desk.at(0, 50), 0);
        Due.is("before any", desk.at(0, 0), NONE);
    }

    @Says("In one CELL the THING of the greatest HEIGHT counts (that is there on a DAY; of several the first).")
    static void promise05_aNettedOneCounts() {
        PictureDesk desk = new PictureDesk();
        put(desk, 0, 0, 1, 1, 7, 0, 0, 99);
        put(desk, 0, 0, 1, 1, 6, 0, 0, 99);
        desk.set(0, 9, 1);
        Due.is("the higher one under its net", desk.at(0, 0), 0);
    }

    @Says("The THING that counts in a CELL on a DAY; NONE.")
    static void promise05_NONE_whereNothingLies() {
        PictureDesk desk = new PictureDesk();
        put(desk, 8, 3, 4, 1, 1, 0, 5, 6);
        Due.is("beside it in the west", desk.at(43, 5), NONE);
        Due.is("in the next row's first cell", desk.at(48, 5), NONE);
        Due.is("above it", desk.at(32, 5), NONE);
        Due.is("below it", desk.at(56, 5), NONE);
        Due.is("a day early", desk.at(44, 4), NONE);
        Due.is("a day late", desk.at(44, 7), NONE);
    }

    @Says("The THING that counts in a CELL on a DAY; NONE. OUTSIDE.")
    static void promise05_OUTSIDE_cell() {
        PictureDesk desk = deskOf(1);
        Due.range(n -> desk.at(n[0], n[1]), Due.of(0, 0), 0, 0, 95, OUTSIDE);
    }

    @Says("DAYS are 0 to 99.")
    static void promise05_OUTSIDE_day() {
        PictureDesk desk = deskOf(1);
        Due.range(n -> desk.at(n[0], n[1]), Due.of(0, 0), 1, 0, 99, OUTSIDE);
    }
}
