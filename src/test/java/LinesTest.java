/** Promises 20 to 24: lines and doings. */
final class LinesTest {
    private static final Due DUE = new Due();
    private static final long LOST = PictureDesk.LOST;

    public static void main(String[] args) {
        meet();
        linesOfNoCell();
        linesToTheEnds();
        chance();
        did();
        decoy();
        sure();
        DUE.end();
    }

    private static void meet() {
        PictureDesk desk = new PictureDesk();
        desk.thing(3, 3, 3, 3, 1, 0, 10, 20);
        int[] first = {3, 6, 42, 78, 75, 50, 36, 0};
        for (int way = 0; way < 8; way++) {
            desk.set(0, 8, way);
            DUE.is("way " + way, desk.meet(10, 0), first[way]);
            DUE.is("way " + way + ", how many", desk.meet(20, 1), 1);
        }
        desk.set(0, 8, 2);
        DUE.is("before it is there", desk.meet(9, 0), -6);
        DUE.is("before it is there, how many", desk.meet(9, 1), 0);
        DUE.is("when it is gone", desk.meet(21, 0), -6);
        desk.thing(8, 0, 1, 1, 1, 0, 0, 99);
        desk.thing(8, 7, 1, 1, 1, 0, 0, 99);
        desk.set(1, 8, 4);
        desk.set(2, 8, 0);
        DUE.is("three meet", desk.meet(15, 0), 44);
        DUE.is("three meet, how many", desk.meet(15, 1), 3);
        DUE.is("two meet, the least number", desk.meet(5, 0), 20);
        DUE.is("two meet, how many", desk.meet(5, 1), 2);
        DUE.is("meet(100, 0)", desk.meet(100, 0), -2);
        DUE.is("meet(-1, 0)", desk.meet(-1, 0), -2);
        DUE.is("meet(0, 2)", desk.meet(0, 2), -2);
        DUE.is("meet(0, -1)", desk.meet(0, -1), -2);
    }

    private static void linesOfNoCell() {
        PictureDesk desk = new PictureDesk();
        desk.thing(0, 0, 1, 1, 1, 0, 0, 99);
        desk.set(0, 8, 0);
        DUE.is("straight off the land", desk.meet(0, 0), -6);
        DUE.is("straight off the land, how many", desk.meet(0, 1), 0);
        DUE.is("straight off the land, chance", desk.chance(0, 0), LOST - 3);
    }

    private static void linesToTheEnds() {
        PictureDesk desk = new PictureDesk();
        desk.thing(0, 7, 1, 1, 1, 0, 0, 99);
        desk.thing(11, 0, 1, 1, 1, 0, 0, 99);
        desk.set(0, 8, 2);
        desk.set(1, 8, 4);
        DUE.is("the last corner", desk.meet(0, 0), 95);
        DUE.is("the last corner, how many", desk.meet(0, 1), 2);
        desk.set(0, 8, 1);
        desk.set(1, 8, 6);
        DUE.is("a corner's row", desk.meet(0, 0), 7);
        desk.set(0, 8, 0);
        DUE.is("the first corner", desk.meet(0, 0), 0);
        desk.thing(1, 3, 1, 1, 1, 0, 0, 99);
        desk.thing(9, 3, 1, 1, 1, 0, 0, 99);
        desk.set(0, 8, 8);
        desk.set(1, 8, 8);
        desk.set(2, 8, 2);
        desk.set(3, 8, 6);
        DUE.is("towards one another", desk.meet(0, 0), 38);
        DUE.is("both can", desk.chance(0, 1), 64);
        desk.set(0, 8, 4);
        DUE.is("the first thing alone can't", desk.chance(0, 1), 1);
        DUE.is("the first thing alone can't, upper", desk.chance(0, 0), 0);
    }

    private static void chance() {
        PictureDesk desk = new PictureDesk();
        DUE.is("no lines", desk.chance(0, 1), LOST - 3);
        DUE.is("no lines, day 100", desk.chance(100, 1), LOST - 2);
        DUE.is("no lines, day -1", desk.chance(-1, 1), LOST - 2);
        DUE.is("part 2", desk.chance(0, 2), LOST - 2);
        DUE.is("part -1", desk.chance(0, -1), LOST - 2);
        long lower = 1;
        int[][] places = {{4, 0}, {4, 7}, {0, 4}, {11, 4}, {1, 1}, {7, 7}, {8, 0}, {1, 7}};
        int[] ways = {4, 0, 2, 6, 3, 7, 5, 1};
        for (int i = 0; i < 8; i++) {
            desk.thing(places[i][0], places[i][1], 1, 1, 1, 0, 0, 50);
            desk.set(i, 8, ways[i]);
            lower *= 8;
            DUE.is("upper, things " + i, desk.chance(50, 0), 1);
            DUE.is("lower, things " + i, desk.chance(50, 1), lower);
        }
        DUE.is("all meet", desk.meet(0, 0), 52);
        DUE.is("all meet, how many", desk.meet(0, 1), 8);
        desk.thing(0, 0, 1, 1, 1, 0, 60, 60);
        desk.set(8, 8, 0);
        DUE.is("one that is not there", desk.chance(50, 1), lower);
        desk.thing(5, 0, 1, 1, 1, 0, 0, 99);
        DUE.is("one that faces nowhere", desk.chance(50, 1), lower);
        desk.set(9, 8, 0);
        DUE.is("one that can't, upper", desk.chance(50, 0), 0);
        DUE.is("one that can't, lower", desk.chance(50, 1), 1);
        desk.set(9, 8, 8);
        desk.thing(3, 3, 2, 2, 1, 0, 0, 99);
        desk.set(10, 8, 0);
        DUE.is("one that lies on it", desk.chance(50, 0), 0);
    }

    private static void did() {
        PictureDesk desk = new PictureDesk();
        DUE.is("did(0, 100, true)", desk.did(0, 100, true), -1);
        desk.thing(0, 0, 1, 1, 1, 0, 60, 60);
        desk.thing(0, 0, 1, 1, 1, 0, 60, 60);
        for (int day = 0; day < 100; day++) {
            DUE.is("first", desk.did(0, day, true), 0);
            DUE.is("again", desk.did(0, day, true), 1);
            DUE.is("the other thing's own", desk.did(1, day, false), 0);
        }
        for (int day = 0; day < 100; day++) {
            DUE.is("not", desk.did(0, day, false), 1);
            DUE.is("not, again", desk.did(0, day, false), 0);
        }
        DUE.is("did(0, 100, true)", desk.did(0, 100, true), -2);
        DUE.is("did(0, -1, true)", desk.did(0, -1, true), -2);
        DUE.is("did(2, 0, true)", desk.did(2, 0, true), -1);
    }

    private static void decoy() {
        PictureDesk desk = new PictureDesk();
        DUE.is("no thing", desk.decoy(0, -1, 0, 5, 0), LOST - 1);
        desk.thing(0, 0, 1, 1, 1, 0, 60, 60);
        DUE.is("1 day, upper", desk.decoy(0, 0, 0, 8, 0), 3);
        DUE.is("1 day, lower", desk.decoy(0, 0, 0, 8, 1), 5);
        DUE.is("2 days, upper", desk.decoy(0, 98, 99, 1, 0), 361);
        DUE.is("2 days, lower", desk.decoy(0, 98, 99, 1, 1), 400);
        DUE.is("12 days", desk.decoy(0, 0, 11, 10, 1), 4096);
        DUE.is("13 days", desk.decoy(0, 0, 12, 10, 1), LOST - 2);
        desk.did(0, 12, true);
        DUE.is("13 days, 12 without", desk.decoy(0, 0, 12, 10, 1), 4096);
        desk.did(0, 5, true);
        DUE.is("13 days, 11 without", desk.decoy(0, 0, 12, 10, 1), 2048);
        DUE.is("none without, upper", desk.decoy(0, 12, 12, 10, 0), 1);
        DUE.is("none without, lower", desk.decoy(0, 12, 12, 10, 1), 1);
        DUE.is("from above to", desk.decoy(0, 1, 0, 10, 1), LOST - 2);
        DUE.is("from -1", desk.decoy(0, -1, 0, 10, 1), LOST - 2);
        DUE.is("to 100", desk.decoy(0, 99, 100, 10, 1), LOST - 2);
        DUE.is("q 0", desk.decoy(0, 0, 0, 0, 1), LOST - 2);
        DUE.is("q 20", desk.decoy(0, 0, 0, 20, 1), LOST - 2);
        DUE.is("part 2", desk.decoy(0, 0, 0, 10, 2), LOST - 2);
        DUE.is("part -1", desk.decoy(0, 0, 0, 10, -1), LOST - 2);
    }

    private static void sure() {
        PictureDesk desk = new PictureDesk();
        DUE.is("s 100", desk.sure(1, 100), 0);
        DUE.is("s 99", desk.sure(1, 99), 1);
        DUE.is("just as much", desk.sure(10, 50), 1);
        DUE.is("a quarter", desk.sure(10, 25), 2);
        DUE.is("less than a quarter", desk.sure(10, 24), 3);
        DUE.is("12", desk.sure(1, 55), 12);
        DUE.is("more than 12", desk.sure(1, 54), -6);
        DUE.is("s 0", desk.sure(19, 0), -6);
        DUE.is("s 1", desk.sure(19, 1), 2);
        DUE.is("q 0", desk.sure(0, 50), -2);
        DUE.is("q 20", desk.sure(20, 50), -2);
        DUE.is("s -1", desk.sure(5, -1), -2);
        DUE.is("s 101", desk.sure(5, 101), -2);
    }
}
