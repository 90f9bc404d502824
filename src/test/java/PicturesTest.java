/** Promises 6 to 11: pictures. */
final class PicturesTest {
    private static final int NONE = -6, UNKNOWN = -1, OUTSIDE = -2, FULL = -4;
    private static final int[] PLAIN = {3, 8, 50, 2, 10};
    private static final int NORTH = 0, EAST = 1, SOUTH = 2, WEST = 3;

    public static void main(String[] args) {
        Due.run(PicturesTest.class);
    }

    private static int take(PictureDesk desk, int... n) {
        return desk.picture(n[0], n[1], n[2], n[3], n[4]);
    }

    private static long takeNew(int... n) {
        return take(new PictureDesk(), n);
    }

    private static PictureDesk deskOf(int many) {
        PictureDesk desk = new PictureDesk();
        for (int i = 0; i < many; i++) take(desk, 0, 11, 0, 0, i);
        return desk;
    }

    // ---- promise 6

    @Says("A PICTURE: its number.")
    static void promise06_numberedFrom0On() {
        PictureDesk desk = new PictureDesk();
        for (int i = 0; i < 10; i++) {
            Due.is("picture", take(desk, PLAIN), i);
            Due.is("told(1)", desk.told(1), i + 1);
        }
    }

    @Says("a strip of columns from x to x (0 to 11)")
    static void promise06_OUTSIDE_columns() {
        Due.range(PicturesTest::takeNew, Due.of(0, 11, 0, 0, 0), 0, 0, 11, OUTSIDE);
        Due.range(PicturesTest::takeNew, Due.of(0, 0, 0, 0, 0), 1, 0, 11, OUTSIDE);
    }

    @Says("OUTSIDE: columns from not above to; FULL.")
    static void promise06_OUTSIDE_fromAboveTo() {
        for (int from = 0; from < 12; from++) for (int to = 0; to < 12; to++) {
            Due.is("from " + from + " to " + to, takeNew(from, to, 0, 0, 0), from > to ? OUTSIDE : 0);
        }
    }

    @Says("DAYS are 0 to 99.")
    static void promise06_OUTSIDE_day() {
        Due.range(PicturesTest::takeNew, PLAIN, 2, 0, 99, OUTSIDE);
    }

    @Says("a SUN (0 to 3: shadows fall north, east, south, west)")
    static void promise06_OUTSIDE_sun() {
        Due.range(PicturesTest::takeNew, PLAIN, 3, 0, 3, OUTSIDE);
    }

    @Says("a SLOPE (0 to 20: a shadow reaches over HEIGHT times SLOPE by 10 CELLS, cut)")
    static void promise06_OUTSIDE_slope() {
        Due.range(PicturesTest::takeNew, PLAIN, 4, 0, 20, OUTSIDE);
    }

    @Says("OUTSIDE: columns from not above to; FULL.")
    static void promise06_OUTSIDE_takesNoNumber() {
        PictureDesk desk = deskOf(1);
        Due.is("outside", take(desk, 1, 0, 0, 0, 0), OUTSIDE);
        Due.is("told(1)", desk.told(1), 1);
        Due.is("the next number", take(desk, PLAIN), 1);
    }

    @Says("PICTURES, 10 at most, numbered from 0 on")
    static void promise06_FULL_10AtMost() {
        PictureDesk desk = deskOf(10);
        for (int i = 0; i < 3; i++) Due.is("one more", take(desk, 0, 0, 0, 0, 20), FULL);
        Due.is("told(1)", desk.told(1), 10);
        Due.is("the last one stays", desk.shows(9, 95), 0);
    }

    @Says("Calls that are refused answer, the first of these that fits")
    static void promise06_FULL_behindOUTSIDE() {
        PictureDesk desk = deskOf(10);
        Due.is("from above to", take(desk, 1, 0, 0, 0, 0), OUTSIDE);
        Due.is("slope 21", take(desk, 0, 11, 0, 0, 21), OUTSIDE);
        Due.is("day 100", take(desk, 0, 11, 100, 0, 0), OUTSIDE);
    }

    // ---- promise 7

    @Says("A CELL of a PICTURE is under CLOUD, or not: whether it was (1, 0).")
    static void promise07_whetherItWas() {
        PictureDesk desk = deskOf(2);
        for (int cell = 0; cell < 96; cell++) {
            Due.is("not at first", desk.cloud(1, cell, true), 0);
            Due.is("it is", desk.cloud(1, cell, true), 1);
            Due.is("no more", desk.cloud(1, cell, false), 1);
            Due.is("it is not", desk.cloud(1, cell, false), 0);
        }
    }

    @Says("A CELL of a PICTURE is under CLOUD, or not: whether it was (1, 0).")
    static void promise07_eachPictureHasItsOwn() {
        PictureDesk desk = deskOf(10);
        for (int picture = 0; picture < 10; picture++) Due.is("first", desk.cloud(picture, 63 + picture, true), 0);
        for (int picture = 0; picture < 10; picture++) for (int cell = 63; cell < 73; cell++) {
            boolean is = cell == 63 + picture;
            Due.is("cell " + cell, desk.cloud(picture, cell, is), is ? 1 : 0);
        }
    }

    @Says("NONE: not covered (beside the strip, under CLOUD)")
    static void promise07_besideTheStripToo() {
        PictureDesk desk = new PictureDesk();
        take(desk, 2, 4, 0, 0, 10);
        for (int cell : new int[] {0, 1, 5, 11, 95}) {
            Due.is("first", desk.cloud(0, cell, true), 0);
            Due.is("again", desk.cloud(0, cell, false), 1);
            Due.is("beside the strip all the same", desk.shows(0, cell), NONE);
        }
    }

    @Says("UNKNOWN; OUTSIDE.")
    static void promise07_OUTSIDE_cell() {
        PictureDesk desk = deskOf(1);
        Due.range(n -> desk.cloud(n[0], n[1], true), Due.of(0, 0), 1, 0, 95, OUTSIDE);
        Due.range(n -> desk.cloud(n[0], n[1], false), Due.of(0, 0), 1, 0, 95, OUTSIDE);
    }

    @Says("UNKNOWN; OUTSIDE.")
    static void promise07_UNKNOWN_picture() {
        for (int many = 1; many <= 10; many++) {
            PictureDesk desk = deskOf(many);
            Due.range(n -> desk.cloud(n[0], n[1], true), Due.of(0, 0), 0, 0, many - 1, UNKNOWN);
        }
        Due.is("of none", new PictureDesk().cloud(0, 0, true), UNKNOWN);
    }

    @Says("Calls that are refused answer, the first of these that fits")
    static void promise07_UNKNOWN_aheadOfOUTSIDE() {
        Due.is("cloud(1, 96, true)", deskOf(1).cloud(1, 96, true), UNKNOWN);
    }

    // ---- promise 8

    @Says("NONE: not covered (beside the strip, under CLOUD)")
    static void promise08_NONE_besideTheStrip() {
        int[][] strips = {{0, 0}, {11, 11}, {3, 8}, {0, 11}, {5, 5}, {0, 10}, {1, 11}};
        for (int[] strip : strips) {
            PictureDesk desk = new PictureDesk();
            desk.thing(0, 0, 1, 1, 1, 0, 0, 99);
            desk.thing(11, 7, 1, 1, 1, 0, 0, 99);
            take(desk, strip[0], strip[1], 0, 0, 0);
            for (int cell = 0; cell < 96; cell++) {
                boolean isIn = cell % 12 >= strip[0] && cell % 12 <= strip[1];
                Due.is("cell " + cell, desk.shows(0, cell), !isIn ? NONE : cell == 0 || cell == 95 ? 10 : 0);
            }
        }
    }

    @Says("NONE: not covered (beside the strip, under CLOUD)")
    static void promise08_NONE_underCloud() {
        PictureDesk desk = new PictureDesk();
        desk.thing(0, 0, 2, 1, 4, 3, 0, 99);
        take(desk, 0, 11, 0, EAST, 10);
        int[] cells = {0, 3, 95};
        int[] want = {13, 1, 0};
        for (int i = 0; i < 3; i++) {
            desk.cloud(0, cells[i], true);
            Due.is("under cloud", desk.shows(0, cells[i]), NONE);
            desk.cloud(0, cells[i], false);
            Due.is("without", desk.shows(0, cells[i]), want[i]);
        }
    }

    @Says("10 and the KIND of the THING that counts there, if it is not NETTED")
    static void promise08_10AndTheKind() {
        for (int kind = 0; kind < 6; kind++) {
            PictureDesk desk = new PictureDesk();
            desk.thing(4, 4, 1, 1, 2, kind, 0, 99);
            desk.thing(4, 4, 1, 1, 3, 5 - kind, 50, 50);
            take(desk, 0, 11, 49, 0, 20);
            take(desk, 0, 11, 50, 0, 20);
            Due.is("alone", desk.shows(0, 52), 10 + kind);
            Due.is("the higher one", desk.shows(1, 52), 15 - kind);
        }
    }

    @Says("In one CELL the THING of the greatest HEIGHT counts (that is there on a DAY; of several the first).")
    static void promise08_onThePicturesDay() {
        PictureDesk desk = new PictureDesk();
        desk.thing(4, 4, 1, 1, 2, 1, 10, 20);
        int[] days = {9, 10, 20, 21};
        int[] want = {0, 11, 11, 0};
        for (int i = 0; i < 4; i++) {
            take(desk, 0, 11, days[i], EAST, 10);
            Due.is("on " + days[i], desk.shows(i, 52), want[i]);
            Due.is("its shadow on " + days[i], desk.shows(i, 53), want[i] == 0 ? 0 : 1);
        }
    }

    @Says("(a NETTED one shows nothing of itself, but its shadow falls)")
    static void promise08_aNettedOneShowsNothingOfItself() {
        PictureDesk desk = new PictureDesk();
        desk.thing(4, 4, 1, 1, 5, 3, 0, 99);
        desk.thing(4, 4, 1, 1, 2, 1, 0, 99);
        take(desk, 0, 11, 0, EAST, 4);
        Due.is("without a net", desk.shows(0, 52), 13);
        desk.set(0, 9, 1);
        Due.is("ground; the lower one does not count", desk.shows(0, 52), 0);
        Due.is("its shadow", desk.shows(0, 53), 1);
        Due.is("its shadow's last cell", desk.shows(0, 54), 1);
        Due.is("behind it", desk.shows(0, 55), 0);
        desk.set(0, 9, 0);
        Due.is("without the net again", desk.shows(0, 52), 13);
    }

    @Says("(a NETTED one shows nothing of itself, but its shadow falls)")
    static void promise08_netsComeAndGoInEveryCell() {
        for (int cell = 0; cell < 96; cell++) {
            PictureDesk desk = new PictureDesk();
            desk.thing(cell % 12, cell / 12, 1, 1, 1, 0, 0, 99);
            take(desk, 0, 11, 0, 0, 0);
            for (int net = 0; net < 4; net++) {
                desk.set(0, 9, net % 2);
                Due.is("cell " + cell, desk.shows(0, cell), net % 2 == 1 ? 0 : 10);
            }
        }
    }

    @Says("(a NETTED one shows nothing of itself, but its shadow falls)")
    static void promise08_aNetTakesShadows() {
        PictureDesk desk = new PictureDesk();
        desk.thing(4, 4, 2, 1, 5, 3, 0, 99);
        desk.set(0, 9, 1);
        take(desk, 0, 11, 0, EAST, 10);
        Due.is("its first cell", desk.shows(0, 52), 0);
        Due.is("its second cell in the first one's shadow", desk.shows(0, 53), 1);
    }

    @Says("10 and the KIND of the THING that counts there, if it is not NETTED")
    static void promise08_aThingInAShadowShows() {
        PictureDesk desk = new PictureDesk();
        desk.thing(4, 4, 1, 1, 5, 3, 0, 99);
        desk.thing(5, 4, 1, 1, 1, 2, 0, 99);
        take(desk, 0, 11, 0, EAST, 10);
        Due.is("not a shadow", desk.shows(0, 53), 12);
        Due.is("a shadow behind it", desk.shows(0, 54), 1);
    }

    @Says("lies so many CELLS or fewer from it, straight against the way shadows fall")
    static void promise08_shadowsFallFourWays() {
        int[] step = {-12, 1, 12, -1};
        for (int sun = 0; sun < 4; sun++) {
            PictureDesk desk = new PictureDesk();
            desk.thing(5, 3, 1, 1, 2, 4, 5, 6);
            take(desk, 0, 11, 5, sun, 10);
            for (int cell = 0; cell < 96; cell++) {
                boolean isShadow = cell == 41 + step[sun] || cell == 41 + 2 * step[sun];
                Due.is("sun " + sun + " cell " + cell, desk.shows(0, cell), cell == 41 ? 14 : isShadow ? 1 : 0);
            }
        }
    }

    @Says("a shadow reaches over HEIGHT times SLOPE by 10 CELLS, cut")
    static void promise08_everyHeightAndSlope() {
        for (int height = 1; height <= 20; height++) for (int slope = 0; slope <= 20; slope++) {
            PictureDesk desk = new PictureDesk();
            desk.thing(0, 0, 1, 1, height, 0, 0, 0);
            desk.thing(11, 7, 1, 1, height, 0, 0, 0);
            for (int sun = 0; sun < 4; sun++) take(desk, 0, 11, 0, sun, slope);
            int reach = height * slope / 10;
            for (int d = 1; d <= 11; d++) {
                int want = d <= reach ? 1 : 0;
                Due.is("east " + height + " by " + slope, desk.shows(EAST, d), want);
                Due.is("west " + height + " by " + slope, desk.shows(WEST, 95 - d), want);
                if (d > 7) continue;
                Due.is("south " + height + " by " + slope, desk.shows(SOUTH, 12 * d), want);
                Due.is("north " + height + " by " + slope, desk.shows(NORTH, 95 - 12 * d), want);
            }
        }
    }

    @Says("Quotients are cut.")
    static void promise08_aShadowIsCut() {
        PictureDesk desk = new PictureDesk();
        desk.thing(0, 1, 1, 1, 9, 0, 0, 99);
        desk.thing(0, 2, 1, 1, 10, 0, 0, 99);
        desk.thing(0, 3, 1, 1, 19, 0, 0, 99);
        take(desk, 0, 11, 1, EAST, 1);
        Due.is("9 by 10", desk.shows(0, 13), 0);
        Due.is("10 by 10", desk.shows(0, 25), 1);
        Due.is("10 by 10, no farther", desk.shows(0, 26), 0);
        Due.is("19 by 10", desk.shows(0, 37), 1);
        Due.is("19 by 10, no farther", desk.shows(0, 38), 0);
    }

    @Says("(not the CELL itself)")
    static void promise08_notTheCellItself() {
        for (int sun = 0; sun < 4; sun++) {
            PictureDesk desk = new PictureDesk();
            desk.thing(5, 4, 1, 1, 20, 0, 0, 99);
            desk.set(0, 9, 1);
            take(desk, 0, 11, 0, sun, 20);
            Due.is("sun " + sun, desk.shows(0, 53), 0);
        }
    }

    @Says("CELLS x 0 to 11 (to the east), y 0 to 7 (to the south)")
    static void promise08_aShadowEndsWithTheLand() {
        int[][] things = {{5, 0}, {11, 3}, {5, 7}, {0, 3}};
        for (int sun = 0; sun < 4; sun++) {
            PictureDesk desk = new PictureDesk();
            desk.thing(things[sun][0], things[sun][1], 1, 1, 20, 0, 0, 99);
            take(desk, 0, 11, 0, sun, 20);
            Due.is("sun " + sun + ", no shadow on the land", desk.count(0, 2), 0);
        }
    }

    @Says("NONE: not covered (beside the strip, under CLOUD)")
    static void promise08_shadowsOfWhatIsNotCovered() {
        PictureDesk desk = new PictureDesk();
        desk.thing(0, 1, 1, 1, 10, 0, 0, 99);
        take(desk, 5, 11, 0, EAST, 6);
        Due.is("from beside the strip", desk.shows(0, 18), 1);
        Due.is("no farther", desk.shows(0, 19), 0);
        take(desk, 0, 11, 0, EAST, 6);
        desk.cloud(1, 12, true);
        Due.is("from under a cloud", desk.shows(1, 13), 1);
        desk.cloud(1, 14, true);
        Due.is("beyond a cloud", desk.shows(1, 15), 1);
    }

    @Says("What a CELL of a PICTURE SHOWS")
    static void promise08_whatIsToldLaterShows() {
        PictureDesk desk = new PictureDesk();
        take(desk, 0, 11, 7, SOUTH, 10);
        Due.is("ground", desk.shows(0, 0), 0);
        desk.thing(0, 0, 1, 1, 1, 5, 7, 7);
        Due.is("a thing that was told later", desk.shows(0, 0), 15);
        Due.is("its shadow", desk.shows(0, 12), 1);
    }

    @Says("What a CELL SHOWS. UNKNOWN; OUTSIDE.")
    static void promise08_OUTSIDE_cell() {
        PictureDesk desk = deskOf(1);
        Due.range(n -> desk.shows(n[0], n[1]), Due.of(0, 0), 1, 0, 95, OUTSIDE);
        take(desk, 5, 5, 0, 0, 0);
        Due.is("a cell beside the strip is none outside", desk.shows(1, 0), NONE);
    }

    @Says("What a CELL SHOWS. UNKNOWN; OUTSIDE.")
    static void promise08_UNKNOWN_picture() {
        for (int many = 1; many <= 10; many++) {
            PictureDesk desk = deskOf(many);
            Due.range(n -> desk.shows(n[0], n[1]), Due.of(0, 0), 0, 0, many - 1, UNKNOWN);
        }
        Due.is("of none", new PictureDesk().shows(0, 0), UNKNOWN);
    }

    @Says("Calls that are refused answer, the first of these that fits")
    static void promise08_UNKNOWN_aheadOfOUTSIDE() {
        Due.is("shows(1, 96)", deskOf(1).shows(1, 96), UNKNOWN);
    }

    // ---- promise 9

    private static void counts(PictureDesk desk, int picture, int... want) {
        for (int what = 0; what < 4; what++) Due.is("count of " + what, desk.count(picture, what), want[what]);
    }

    @Says("0 to 3 CELLS that are not covered, ground, shadows, THINGS")
    static void promise09_fourSorts() {
        PictureDesk desk = new PictureDesk();
        desk.thing(0, 0, 3, 2, 1, 0, 0, 99);
        take(desk, 1, 4, 0, SOUTH, 10);
        counts(desk, 0, 64, 26, 2, 4);
        desk.cloud(0, 1, true);
        counts(desk, 0, 65, 26, 2, 3);
        desk.cloud(0, 25, true);
        counts(desk, 0, 66, 26, 1, 3);
        desk.cloud(0, 94, true);
        counts(desk, 0, 66, 26, 1, 3);
        desk.cloud(0, 88, true);
        counts(desk, 0, 67, 25, 1, 3);
        desk.set(0, 9, 1);
        counts(desk, 0, 67, 26, 3, 0);
    }

    @Says("0 to 3 CELLS that are not covered, ground, shadows, THINGS")
    static void promise09_allOrNothing() {
        PictureDesk desk = deskOf(2);
        counts(desk, 0, 0, 96, 0, 0);
        for (int cell = 0; cell < 96; cell++) desk.cloud(1, cell, true);
        counts(desk, 1, 96, 0, 0, 0);
        for (int i = 0; i < 6; i++) desk.thing(i % 3 * 4, i / 3 * 4, 4, 4, 1, i, 0, 99);
        counts(desk, 0, 0, 0, 0, 96);
    }

    @Says("0 to 3 CELLS that are not covered, ground, shadows, THINGS. UNKNOWN; OUTSIDE.")
    static void promise09_OUTSIDE_what() {
        PictureDesk desk = deskOf(1);
        Due.range(n -> desk.count(n[0], n[1]), Due.of(0, 0), 1, 0, 3, OUTSIDE);
    }

    @Says("0 to 3 CELLS that are not covered, ground, shadows, THINGS. UNKNOWN; OUTSIDE.")
    static void promise09_UNKNOWN_picture() {
        for (int many = 1; many <= 10; many++) {
            PictureDesk desk = deskOf(many);
            Due.range(n -> desk.count(n[0], n[1]), Due.of(0, 0), 0, 0, many - 1, UNKNOWN);
        }
        Due.is("of none", new PictureDesk().count(0, 0), UNKNOWN);
    }

    @Says("Calls that are refused answer, the first of these that fits")
    static void promise09_UNKNOWN_aheadOfOUTSIDE() {
        Due.is("count(1, 4)", deskOf(1).count(1, 4), UNKNOWN);
    }

    // ---- promise 10

    @Says("the least and greatest HEIGHT (1 to 20) that has just such a one; none.")
    static void promise10_everySlopeAndLength() {
        for (int slope = 0; slope <= 20; slope++) {
            PictureDesk desk = new PictureDesk();
            take(desk, 0, 0, 0, 0, slope);
            for (int cells = 0; cells <= 11; cells++) {
                int least = NONE, greatest = NONE;
                for (int height = 20; height >= 1; height--) {
                    if (height * slope / 10 != cells) continue;
                    least = height;
                    if (greatest == NONE) greatest = height;
                }
                Due.is("least, " + cells + " by " + slope, desk.span(0, cells, 0), least);
                Due.is("greatest, " + cells + " by " + slope, desk.span(0, cells, 1), greatest);
            }
        }
    }

    private static PictureDesk sloped(int slope) {
        PictureDesk desk = new PictureDesk();
        take(desk, 0, 0, 0, 0, slope);
        return desk;
    }

    @Says("SPAN: the least HEIGHT (end = 0), the greatest one (1); NONE.")
    static void promise10_leastAndGreatest() {
        Due.is("slope 0, the least of all", sloped(0).span(0, 0, 0), 1);
        Due.is("slope 0, the greatest of all", sloped(0).span(0, 0, 1), 20);
        Due.is("slope 3, 1 cell, least", sloped(3).span(0, 1, 0), 4);
        Due.is("slope 3, 1 cell, greatest", sloped(3).span(0, 1, 1), 6);
        Due.is("slope 3, 6 cells", sloped(3).span(0, 6, 0), 20);
        Due.is("slope 11, 11 cells", sloped(11).span(0, 11, 1), 10);
        Due.is("slope 20, 10 cells", sloped(20).span(0, 10, 1), 5);
    }

    @Says("SPAN: the least HEIGHT (end = 0), the greatest one (1); NONE.")
    static void promise10_NONE_noSuchHeight() {
        for (int end = 0; end < 2; end++) {
            Due.is("slope 0, 1 cell", sloped(0).span(0, 1, end), NONE);
            Due.is("slope 3, 7 cells", sloped(3).span(0, 7, end), NONE);
            Due.is("slope 10, 0 cells", sloped(10).span(0, 0, end), NONE);
            Due.is("slope 20, 11 cells", sloped(20).span(0, 11, end), NONE);
        }
    }

    @Says("SPAN of a shadow of so many CELLS (0 to 11) by a PICTURE's SLOPE")
    static void promise10_OUTSIDE_cells() {
        PictureDesk desk = sloped(20);
        Due.range(n -> desk.span(n[0], n[1], n[2]), Due.of(0, 0, 0), 1, 0, 11, OUTSIDE);
    }

    @Says("SPAN: the least HEIGHT (end = 0), the greatest one (1); NONE. UNKNOWN; OUTSIDE.")
    static void promise10_OUTSIDE_end() {
        PictureDesk desk = sloped(20);
        Due.range(n -> desk.span(n[0], n[1], n[2]), Due.of(0, 0, 0), 2, 0, 1, OUTSIDE);
    }

    @Says("SPAN: the least HEIGHT (end = 0), the greatest one (1); NONE. UNKNOWN; OUTSIDE.")
    static void promise10_UNKNOWN_picture() {
        for (int many = 1; many <= 10; many++) {
            PictureDesk desk = deskOf(many);
            Due.range(n -> desk.span(n[0], n[1], n[2]), Due.of(0, 0, 0), 0, 0, many - 1, UNKNOWN);
        }
        Due.is("of none", new PictureDesk().span(0, 0, 0), UNKNOWN);
    }

    @Says("Calls that are refused answer, the first of these that fits")
    static void promise10_UNKNOWN_aheadOfOUTSIDE() {
        Due.is("span(1, 12, 0)", deskOf(1).span(1, 12, 0), UNKNOWN);
        Due.is("span(1, 0, 2)", deskOf(1).span(1, 0, 2), UNKNOWN);
    }

    // ---- promise 11

    private static void changes(PictureDesk desk, int a, int b, int... want) {
        for (int what = 0; what < 3; what++) {
            Due.is("changed, " + what, desk.changed(a, b, what), want[what]);
            Due.is("changed the other way, " + what, desk.changed(b, a, what), want[what]);
        }
    }

    @Says("CELLS that both cover and that do not show alike")
    static void promise11_whatDoesNotShowAlike() {
        PictureDesk desk = new PictureDesk();
        desk.thing(2, 2, 1, 1, 2, 1, 0, 10);
        desk.thing(2, 2, 1, 1, 2, 2, 11, 20);
        desk.thing(2, 2, 1, 1, 2, 1, 21, 30);
        for (int day : new int[] {5, 15, 25, 35}) take(desk, 0, 11, day, EAST, 10);
        changes(desk, 0, 1, 1, 0, 26);
        changes(desk, 0, 2, 0, 0, NONE);
        changes(desk, 0, 3, 3, 2, 26);
    }

    @Says("CELLS that both cover and that do not show alike")
    static void promise11_thatBothCover() {
        PictureDesk desk = new PictureDesk();
        desk.thing(0, 0, 4, 1, 1, 0, 0, 10);
        take(desk, 0, 2, 5, 0, 0);
        take(desk, 2, 11, 15, 0, 0);
        take(desk, 3, 11, 15, 0, 0);
        take(desk, 0, 11, 15, 0, 0);
        changes(desk, 0, 1, 1, 0, 2);
        changes(desk, 0, 2, 0, 0, NONE);
        changes(desk, 0, 3, 3, 0, 0);
        desk.cloud(0, 0, true);
        changes(desk, 0, 3, 2, 0, 1);
        desk.cloud(3, 1, true);
        changes(desk, 0, 3, 1, 0, 2);
        desk.cloud(0, 2, true);
        desk.cloud(3, 2, true);
        changes(desk, 0, 3, 0, 0, NONE);
    }

    @Says("BY THE HOUR: those of them that both show as ground or shadow")
    static void promise11_byTheHour() {
        PictureDesk desk = new PictureDesk();
        desk.thing(5, 3, 1, 1, 2, 0, 0, 99);
        take(desk, 0, 11, 5, EAST, 10);
        take(desk, 0, 11, 5, WEST, 5);
        take(desk, 0, 11, 5, EAST, 15);
        changes(desk, 0, 1, 3, 3, 40);
        changes(desk, 0, 2, 1, 1, 44);
    }

    @Says("BY THE HOUR: those of them that both show as ground or shadow")
    static void promise11_notByTheHourWhereAThingShows() {
        PictureDesk desk = new PictureDesk();
        desk.thing(5, 3, 1, 1, 2, 0, 0, 99);
        desk.thing(6, 3, 1, 1, 1, 0, 10, 10);
        take(desk, 0, 11, 10, EAST, 10);
        take(desk, 0, 11, 11, EAST, 10);
        take(desk, 0, 11, 11, EAST, 0);
        changes(desk, 0, 1, 1, 0, 42);
        changes(desk, 0, 2, 2, 1, 42);
        desk.set(1, 9, 1);
        changes(desk, 0, 1, 0, 0, NONE);
        changes(desk, 0, 2, 2, 2, 42);
    }

    @Says("BY THE HOUR: those of them that both show as ground or shadow")
    static void promise11_byTheHourInEveryCell() {
        for (int cell = 0; cell < 96; cell++) {
            PictureDesk desk = new PictureDesk();
            boolean isFirstColumn = cell % 12 == 0;
            desk.thing(isFirstColumn ? 1 : cell % 12 - 1, cell / 12, 1, 1, 1, 0, 0, 99);
            take(desk, 0, 11, 0, EAST, 0);
            take(desk, 0, 11, 0, isFirstColumn ? WEST : EAST, 10);
            changes(desk, 0, 1, 1, 1, cell);
        }
    }

    @Says("the first CELL (2; NONE)")
    static void promise11_theFirstCell() {
        PictureDesk desk = new PictureDesk();
        desk.thing(0, 0, 1, 1, 1, 0, 10, 10);
        desk.thing(11, 7, 1, 1, 1, 0, 10, 10);
        take(desk, 0, 11, 10, 0, 0);
        take(desk, 0, 11, 11, 0, 0);
        changes(desk, 0, 1, 2, 0, 0);
        desk.cloud(0, 0, true);
        changes(desk, 0, 1, 1, 0, 95);
        desk.cloud(1, 95, true);
        changes(desk, 0, 1, 0, 0, NONE);
    }

    @Says("the first CELL (2; NONE)")
    static void promise11_NONE_nothingChanged() {
        changes(deskOf(2), 0, 1, 0, 0, NONE);
    }

    @Says("UNKNOWN: also both are one; OUTSIDE.")
    static void promise11_OUTSIDE_what() {
        PictureDesk desk = deskOf(2);
        Due.range(n -> desk.changed(n[0], n[1], n[2]), Due.of(0, 1, 0), 2, 0, 2, OUTSIDE);
    }

    @Says("UNKNOWN: also both are one; OUTSIDE.")
    static void promise11_UNKNOWN_eitherPicture() {
        for (int many = 2; many <= 10; many++) {
            PictureDesk desk = deskOf(many);
            for (int i = -2; i < 14; i++) for (int j = -2; j < 14; j++) {
                boolean isKnown = i >= 0 && i < many && j >= 0 && j < many && i != j;
                Due.is("changed(" + i + ", " + j + ", 0)", desk.changed(i, j, 0), isKnown ? 0 : UNKNOWN);
            }
        }
        int[] far = {Integer.MIN_VALUE, Integer.MAX_VALUE};
        for (int i : far) {
            Due.is("the first", deskOf(2).changed(i, 0, 0), UNKNOWN);
            Due.is("the second", deskOf(2).changed(0, i, 0), UNKNOWN);
        }
    }

    @Says("UNKNOWN: also both are one; OUTSIDE.")
    static void promise11_UNKNOWN_bothAreOne() {
        for (int picture = 0; picture < 10; picture++) for (int what = 0; what < 3; what++) {
            Due.is("one", deskOf(10).changed(picture, picture, what), UNKNOWN);
        }
    }

    @Says("Calls that are refused answer, the first of these that fits")
    static void promise11_UNKNOWN_aheadOfOUTSIDE() {
        Due.is("both are one", deskOf(2).changed(1, 1, 3), UNKNOWN);
        Due.is("no first", deskOf(2).changed(2, 1, 3), UNKNOWN);
        Due.is("no second", deskOf(2).changed(1, 2, -1), UNKNOWN);
    }
}
