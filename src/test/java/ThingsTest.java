/** Promises 2 to 5: things. */
final class ThingsTest {
    private static final Due DUE = new Due();

    public static void main(String[] args) {
        thing();
        full();
        of();
        set();
        at();
        DUE.end();
    }

    private static int put(int... n) {
        return new PictureDesk().thing(n[0], n[1], n[2], n[3], n[4], n[5], n[6], n[7]);
    }

    private static void thing() {
        int[] plain = {3, 2, 2, 2, 5, 1, 10, 20};
        int[][] ends = {{0, 10}, {0, 6}, {1, 4}, {1, 4}, {1, 20}, {0, 5}, {0, 20}, {10, 99}};
        for (int i = 0; i < 8; i++) {
            for (int end = 0; end < 2; end++) {
                int[] numbers = plain.clone();
                numbers[i] = ends[i][end];
                DUE.is("number " + i + " as " + numbers[i], put(numbers), 0);
                numbers[i] += end == 0 ? -1 : 1;
                DUE.is("number " + i + " as " + numbers[i], put(numbers), -2);
                numbers[i] = end == 0 ? Integer.MIN_VALUE : Integer.MAX_VALUE;
                DUE.is("number " + i + " as " + numbers[i], put(numbers), -2);
            }
        }
        DUE.is("in the last corner", put(11, 7, 1, 1, 1, 0, 99, 99), 0);
        DUE.is("beyond the east", put(9, 0, 4, 1, 1, 0, 0, 0), -2);
        DUE.is("up to the east", put(8, 0, 4, 1, 1, 0, 0, 0), 0);
        DUE.is("beyond the south", put(0, 5, 1, 4, 1, 0, 0, 0), -2);
        DUE.is("up to the south", put(0, 4, 1, 4, 1, 0, 0, 0), 0);
    }

    private static void full() {
        PictureDesk desk = new PictureDesk();
        for (int i = 0; i < 12; i++) DUE.is("thing " + i, desk.thing(i, 0, 1, 1, 1, 0, 0, 0), i);
        DUE.is("thing 12", desk.thing(0, 0, 1, 1, 1, 0, 0, 0), -4);
        DUE.is("thing 12, outside", desk.thing(0, 0, 1, 1, 0, 0, 0, 0), -2);
        DUE.is("told(0)", desk.told(0), 12);
    }

    private static void of() {
        PictureDesk desk = new PictureDesk();
        desk.thing(3, 2, 4, 1, 7, 5, 11, 22);
        int[] want = {3, 2, 4, 1, 7, 5, 11, 22, 8, 0, 0};
        for (int what = 0; what < 11; what++) DUE.is("of(0, " + what + ")", desk.of(0, what), want[what]);
        DUE.is("of(0, 11)", desk.of(0, 11), -2);
        DUE.is("of(0, -1)", desk.of(0, -1), -2);
        DUE.is("of(1, 0)", desk.of(1, 0), -1);
        DUE.is("of(-1, 0)", desk.of(-1, 0), -1);
        DUE.is("of(12, 99)", desk.of(12, 99), -1);
    }

    private static void set() {
        PictureDesk desk = new PictureDesk();
        desk.thing(3, 2, 4, 1, 7, 5, 11, 22);
        int[] greatest = {8, 1, 1};
        for (int what = 8; what <= 10; what++) {
            int most = greatest[what - 8];
            int first = desk.of(0, what);
            DUE.is("set to 0", desk.set(0, what, 0), first);
            DUE.is("of", desk.of(0, what), 0);
            DUE.is("set to the most", desk.set(0, what, most), 0);
            DUE.is("set beyond", desk.set(0, what, most + 1), -2);
            DUE.is("set below", desk.set(0, what, -1), -2);
            DUE.is("of, behind refused ones", desk.of(0, what), most);
        }
        DUE.is("set(0, 7, 0)", desk.set(0, 7, 0), -2);
        DUE.is("set(0, 11, 0)", desk.set(0, 11, 0), -2);
        DUE.is("set(1, 8, 99)", desk.set(1, 8, 99), -1);
    }

    private static void at() {
        PictureDesk desk = new PictureDesk();
        desk.thing(2, 1, 2, 3, 5, 0, 10, 20);
        desk.thing(3, 2, 1, 1, 5, 1, 0, 99);
        desk.thing(3, 3, 1, 1, 6, 2, 15, 15);
        DUE.is("before it came", desk.at(14, 9), -6);
        DUE.is("since", desk.at(14, 10), 0);
        DUE.is("till", desk.at(14, 20), 0);
        DUE.is("when it is gone", desk.at(14, 21), -6);
        DUE.is("of equal heights the first", desk.at(27, 10), 0);
        DUE.is("the second when the first is not there", desk.at(27, 9), 1);
        DUE.is("the highest", desk.at(39, 15), 2);
        DUE.is("the highest is not there yet", desk.at(39, 14), 0);
        desk.set(2, 9, 1);
        DUE.is("under a net it counts", desk.at(39, 15), 2);
        DUE.is("beside it", desk.at(13, 15), -6);
        DUE.is("beside it in the east", desk.at(16, 15), -6);
        DUE.is("at(96, 0)", desk.at(96, 0), -2);
        DUE.is("at(-1, 0)", desk.at(-1, 0), -2);
        DUE.is("at(0, 100)", desk.at(0, 100), -2);
        DUE.is("at(0, -1)", desk.at(0, -1), -2);
    }
}
