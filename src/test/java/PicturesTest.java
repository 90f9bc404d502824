/** Promises 6 to 11: pictures. */
final class PicturesTest {
    private static final Due DUE = new Due();

    public static void main(String[] args) {
        picture();
        cloud();
        shadowsFallFourWays();
        shadowsAndHeights();
        netsAndShadows();
        landChangesBehindPicture();
        count();
        span();
        changed();
        changedAtTheEnds();
        DUE.end();
    }

    private static void picture() {
        PictureDesk desk = new PictureDesk();
        int[] plain = {3, 8, 50, 2, 10};
        int[][] ends = {{0, 8}, {3, 11}, {0, 99}, {0, 3}, {0, 20}};
        int made = 0;
        for (int i = 0; i < 5; i++) {
            for (int end = 0; end < 2; end++) {
                int[] n = plain.clone();
                n[i] = ends[i][end] + (end == 0 ? -1 : 1);
                DUE.is("number " + i + " as " + n[i], desk.picture(n[0], n[1], n[2], n[3], n[4]), -2);
                n[i] = ends[i][end];
                DUE.is("number " + i + " as " + n[i], desk.picture(n[0], n[1], n[2], n[3], n[4]), made);
                made++;
            }
        }
        DUE.is("told(1)", desk.told(1), 10);
        DUE.is("the last one", desk.shows(9, 3), 0);
        DUE.is("none behind it", desk.shows(10, 3), -1);
        DUE.is("picture 10", desk.picture(0, 11, 0, 0, 0), -4);
        DUE.is("picture 10, outside", desk.picture(0, 12, 0, 0, 0), -2);
    }

    private static void cloud() {
        PictureDesk desk = new PictureDesk();
        DUE.is("cloud(0, -1, true)", desk.cloud(0, -1, true), -1);
        desk.picture(2, 4, 0, 0, 10);
        desk.picture(0, 11, 0, 0, 10);
        for (int cell = 0; cell < 96; cell++) {
            DUE.is("first", desk.cloud(1, cell, true), 0);
            DUE.is("again", desk.cloud(1, cell, true), 1);
            DUE.is("shows", desk.shows(1, cell), -6);
            DUE.is("away", desk.cloud(1, cell, false), 1);
            DUE.is("away again", desk.cloud(1, cell, false), 0);
            DUE.is("shows ground", desk.shows(1, cell), 0);
        }
        DUE.is("a cell beside the strip", desk.cloud(0, 0, true), 0);
        DUE.is("a cell beside the strip, again", desk.cloud(0, 0, false), 1);
        DUE.is("the other picture has its own", desk.cloud(1, 0, false), 0);
        DUE.is("cloud(0, 96, true)", desk.cloud(0, 96, true), -2);
        DUE.is("cloud(0, -1, true)", desk.cloud(0, -1, true), -2);
        DUE.is("cloud(2, 0, true)", desk.cloud(2, 0, true), -1);
    }

    private static void shadowsFallFourWays() {
        int[] step = {-12, 1, 12, -1};
        for (int sun = 0; sun < 4; sun++) {
            PictureDesk desk = new PictureDesk();
            desk.thing(5, 3, 1, 1, 2, 4, 5, 6);
            desk.picture(0, 11, 5, sun, 10);
            for (int cell = 0; cell < 96; cell++) {
                boolean isShadow = cell == 41 + step[sun] || cell == 41 + 2 * step[sun];
                DUE.is("sun " + sun + " cell " + cell, desk.shows(0, cell), cell == 41 ? 14 : isShadow ? 1 : 0);
            }
        }
        PictureDesk desk = new PictureDesk();
        desk.picture(0, 11, 5, 0, 10);
        DUE.is("shows(0, 96)", desk.shows(0, 96), -2);
        DUE.is("shows(0, -1)", desk.shows(0, -1), -2);
        DUE.is("shows(1, -1)", desk.shows(1, -1), -1);
    }

    private static void shadowsAndHeights() {
        PictureDesk desk = new PictureDesk();
        desk.thing(10, 0, 1, 1, 20, 0, 0, 99);
        desk.thing(0, 1, 1, 1, 9, 0, 0, 99);
        desk.thing(0, 2, 1, 1, 10, 0, 0, 99);
        desk.thing(0, 3, 1, 1, 3, 0, 0, 0);
        desk.picture(0, 11, 1, 1, 1);
        DUE.is("a shadow ends with its row", desk.shows(0, 12), 10);
        DUE.is("9 by 10 is cut", desk.shows(0, 13), 0);
        DUE.is("10 by 10", desk.shows(0, 25), 1);
        DUE.is("10 by 10, no farther", desk.shows(0, 26), 0);
        DUE.is("gone on the day", desk.shows(0, 36), 0);
        desk.picture(0, 11, 0, 1, 20);
        DUE.is("the last cell of a shadow of 6", desk.shows(1, 42), 1);
        DUE.is("behind a shadow of 6", desk.shows(1, 43), 0);
        desk.picture(0, 11, 0, 1, 0);
        DUE.is("no slope, no shadow", desk.count(2, 2), 0);
        desk.picture(5, 11, 0, 1, 20);
        DUE.is("from beside the strip", desk.shows(3, 41), 1);
    }

    private static void netsAndShadows() {
        PictureDesk desk = new PictureDesk();
        desk.thing(4, 4, 2, 1, 5, 3, 0, 99);
        desk.thing(4, 4, 1, 1, 2, 1, 0, 99);
        desk.picture(0, 11, 0, 1, 4);
        DUE.is("the higher one", desk.shows(0, 52), 13);
        desk.set(0, 9, 1);
        DUE.is("the lower one does not count under a net", desk.shows(0, 52), 0);
        DUE.is("a net takes shadows of its own thing", desk.shows(0, 53), 1);
        DUE.is("its shadow falls", desk.shows(0, 55), 1);
        DUE.is("no farther", desk.shows(0, 56), 0);
        desk.cloud(0, 53, true);
        DUE.is("under a cloud", desk.shows(0, 53), -6);
        DUE.is("a shadow from under a cloud", desk.shows(0, 55), 1);
        desk.set(0, 9, 0);
        DUE.is("without the net", desk.shows(0, 52), 13);
        // A low thing on a high one's cell throws nothing there.
        PictureDesk other = new PictureDesk();
        other.thing(0, 0, 1, 1, 3, 0, 0, 99);
        other.thing(0, 0, 1, 1, 4, 1, 50, 50);
        other.picture(0, 11, 50, 1, 10);
        DUE.is("the higher one's shadow", other.shows(0, 4), 1);
        DUE.is("the higher one's shadow ends", other.shows(0, 5), 0);
    }

    private static void landChangesBehindPicture() {
        PictureDesk desk = new PictureDesk();
        desk.picture(0, 11, 7, 2, 10);
        DUE.is("ground", desk.shows(0, 0), 0);
        desk.thing(0, 0, 1, 1, 1, 5, 7, 7);
        DUE.is("a thing that was told later", desk.shows(0, 0), 15);
        DUE.is("its shadow", desk.shows(0, 12), 1);
    }

    private static void count() {
        PictureDesk desk = new PictureDesk();
        desk.thing(0, 0, 3, 2, 1, 0, 0, 99);
        desk.picture(1, 4, 0, 2, 10);
        desk.cloud(0, 1, true);
        int[] want = {65, 26, 2, 3};
        for (int what = 0; what < 4; what++) DUE.is("count(0, " + what + ")", desk.count(0, what), want[what]);
        DUE.is("count(0, 4)", desk.count(0, 4), -2);
        DUE.is("count(0, -1)", desk.count(0, -1), -2);
        DUE.is("count(1, 9)", desk.count(1, 9), -1);
    }

    private static void span() {
        PictureDesk desk = new PictureDesk();
        desk.picture(0, 0, 0, 0, 0);
        desk.picture(0, 0, 0, 0, 3);
        desk.picture(0, 0, 0, 0, 20);
        DUE.is("slope 0, least", desk.span(0, 0, 0), 1);
        DUE.is("slope 0, greatest", desk.span(0, 0, 1), 20);
        DUE.is("slope 0, a shadow of 1", desk.span(0, 1, 1), -6);
        desk.picture(0, 0, 0, 0, 5);
        DUE.is("slope 5, 0 cells", desk.span(3, 0, 1), 1);
        DUE.is("slope 3, 0 cells", desk.span(1, 0, 1), 3);
        DUE.is("slope 3, 1 cell, least", desk.span(1, 1, 0), 4);
        DUE.is("slope 3, 1 cell, greatest", desk.span(1, 1, 1), 6);
        DUE.is("slope 3, 6 cells", desk.span(1, 6, 0), 20);
        DUE.is("slope 3, 7 cells", desk.span(1, 7, 0), -6);
        DUE.is("slope 20, 0 cells", desk.span(2, 0, 0), -6);
        DUE.is("slope 20, 10 cells", desk.span(2, 10, 1), 5);
        DUE.is("slope 20, 11 cells", desk.span(2, 11, 1), -6);
        DUE.is("12 cells", desk.span(2, 12, 1), -2);
        DUE.is("-1 cells", desk.span(2, -1, 1), -2);
        DUE.is("end 2", desk.span(2, 0, 2), -2);
        DUE.is("end -1", desk.span(2, 0, -1), -2);
        DUE.is("no picture", desk.span(4, 12, 2), -1);
    }

    private static void changedAtTheEnds() {
        PictureDesk desk = new PictureDesk();
        desk.thing(0, 0, 1, 1, 1, 0, 10, 10);
        desk.thing(11, 7, 1, 1, 1, 0, 10, 10);
        desk.picture(0, 11, 10, 0, 0);
        desk.picture(0, 11, 11, 0, 0);
        DUE.is("both corners", desk.changed(0, 1, 0), 2);
        DUE.is("kind 0 is no ground", desk.changed(0, 1, 1), 0);
        DUE.is("kind 0 is no ground, the other way", desk.changed(1, 0, 1), 0);
        DUE.is("the first corner", desk.changed(0, 1, 2), 0);
        desk.cloud(0, 0, true);
        DUE.is("the last corner", desk.changed(0, 1, 2), 95);
        desk.cloud(0, 0, false);
        desk.set(0, 9, 1);
        desk.set(1, 9, 1);
        DUE.is("nets leave the ground", desk.changed(0, 1, 0), 0);
        desk.picture(0, 0, 10, 3, 20);
        desk.thing(1, 0, 1, 1, 1, 0, 10, 10);
        desk.picture(0, 0, 11, 3, 20);
        DUE.is("a shadow on the first cell", desk.changed(2, 3, 1), 1);
    }

    private static void changed() {
        PictureDesk desk = new PictureDesk();
        desk.thing(2, 2, 1, 1, 2, 1, 0, 10);
        desk.picture(0, 11, 5, 1, 10);
        desk.picture(0, 11, 15, 1, 10);
        desk.picture(0, 11, 5, 3, 5);
        desk.picture(11, 11, 5, 3, 5);
        DUE.is("gone with its shadow", desk.changed(0, 1, 0), 3);
        DUE.is("by the hour, as ground or shadow", desk.changed(0, 1, 1), 2);
        DUE.is("the first", desk.changed(0, 1, 2), 26);
        DUE.is("by the hour alone", desk.changed(0, 2, 0), 3);
        DUE.is("by the hour alone, too", desk.changed(2, 0, 1), 3);
        DUE.is("the first in the west", desk.changed(0, 2, 2), 25);
        DUE.is("nothing", desk.changed(0, 3, 0), 0);
        DUE.is("no first", desk.changed(0, 3, 2), -6);
        desk.cloud(1, 26, true);
        DUE.is("a cell that one does not cover", desk.changed(0, 1, 0), 2);
        DUE.is("the first one of the rest", desk.changed(0, 1, 2), 27);
        DUE.is("one and the same", desk.changed(1, 1, 0), -1);
        DUE.is("no second", desk.changed(1, 4, 9), -1);
        DUE.is("no first", desk.changed(-1, 0, 0), -1);
        DUE.is("what 3", desk.changed(0, 1, 3), -2);
        DUE.is("what -1", desk.changed(0, 1, -1), -2);
    }
}
