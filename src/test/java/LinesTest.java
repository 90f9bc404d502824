import java.math.BigInteger;
import java.util.TreeSet;

/** Promises 20 to 24: lines and doings. */
final class LinesTest {
    private static final int NONE = -6, UNKNOWN = -1, OUTSIDE = -2;
    private static final long LOST = PictureDesk.LOST, LOST_UNKNOWN = LOST - 1, LOST_OUTSIDE = LOST - 2, LOST_STATE = LOST - 3;
    private static final int[] EAST = {0, 1, 1, 1, 0, -1, -1, -1};
    private static final int[] SOUTH = {-1, -1, 0, 1, 1, 1, 0, -1};

    public static void main(String[] args) {
        Due.run(LinesTest.class);
    }

    private static boolean isOnLand(int x, int y) {
        return x >= 0 && x < 12 && y >= 0 && y < 8;
    }

    private static int put(PictureDesk desk, int x, int y, int facing) {
        int number = desk.thing(x, y, 1, 1, 1, 0, 0, 99);
        desk.set(number, 8, facing);
        return number;
    }

    private static void meets(PictureDesk desk, int day, int cell, int many) {
        Due.is("meet, on " + day, desk.meet(day, 0), cell);
        Due.is("meet, how many on " + day, desk.meet(day, 1), many);
    }

    private static void chances(PictureDesk desk, int day, long upper, long lower) {
        Due.is("chance, upper", desk.chance(day, 0), upper);
        Due.is("chance, lower", desk.chance(day, 1), lower);
    }

    // ---- promise 20

    @Says("a FACING (0 to 7: north, north-east, and so on round; 8: none)")
    static void promise20_eightWays() {
        PictureDesk desk = new PictureDesk();
        int[] first = {5, 8, 42, 54, 53, 52, 36, 2};
        put(desk, 5, 3, 8);
        meets(desk, 0, NONE, 0);
        for (int way = 0; way < 8; way++) {
            desk.set(0, 8, way);
            meets(desk, 0, first[way], 1);
        }
    }

    /** The cells of a line, as the document tells them. */
    private static TreeSet<Integer> lineOf(int x, int y, int wide, int length, int way) {
        TreeSet<Integer> cells = new TreeSet<>();
        for (int d = 1; d < 12; d++) {
            int east = d * EAST[way], south = d * SOUTH[way];
            boolean liesOn = east >= 0 && east < wide && south >= 0 && south < length;
            if (isOnLand(x + east, y + south) && !liesOn) cells.add(12 * (y + south) + x + east);
        }
        return cells;
    }

    @Says("CELLS straight on by it (not those that it lies on)")
    static void promise20_allCellsOfALine() {
        for (int way = 0; way < 8; way++) for (int shape = 0; shape < 16; shape++) {
            int wide = 1 + shape % 4, length = 1 + shape / 4;
            TreeSet<Integer> line = lineOf(5, 3, wide, length, way);
            for (int cell = 0; cell < 96; cell++) {
                if (cell % 12 < 11) crosses(way, wide, length, cell, line.contains(cell));
            }
        }
    }

    /** Two more lines, from the cell's neighbours in the east and in the north or south, cross in the cell alone. */
    private static void crosses(int way, int wide, int length, int cell, boolean isOn) {
        PictureDesk desk = new PictureDesk();
        desk.thing(5, 3, wide, length, 1, 0, 0, 99);
        desk.set(0, 8, way);
        int x = cell % 12, y = cell / 12;
        put(desk, x + 1, y, 6);
        put(desk, x, y == 0 ? 1 : y - 1, y == 0 ? 0 : 4);
        if (isOn) meets(desk, 0, cell, 3);
        else Due.holds("not three at " + cell, desk.meet(0, 1) < 3 || desk.meet(0, 0) != cell);
    }

    @Says("CELLS straight on by it (not those that it lies on)")
    static void promise20_notThoseThatItLiesOn() {
        PictureDesk desk = new PictureDesk();
        desk.thing(3, 3, 3, 3, 1, 0, 0, 99);
        int[] first = {3, 6, 42, 78, 75, 50, 36, 0};
        for (int way = 0; way < 8; way++) {
            desk.set(0, 8, way);
            meets(desk, 0, first[way], 1);
        }
    }

    @Says("CELLS straight on by it (not those that it lies on)")
    static void promise20_otherThingsStopNoLine() {
        PictureDesk desk = new PictureDesk();
        put(desk, 0, 0, 2);
        desk.thing(1, 0, 4, 4, 20, 0, 0, 99);
        put(desk, 11, 7, 0);
        meets(desk, 0, 11, 2);
        put(desk, 1, 1, 0);
        meets(desk, 0, 1, 2);
    }

    @Says("CELLS x 0 to 11 (to the east), y 0 to 7 (to the south)")
    static void promise20_toTheLandsEnd() {
        PictureDesk desk = new PictureDesk();
        put(desk, 0, 7, 2);
        put(desk, 11, 0, 4);
        meets(desk, 0, 95, 2);
        desk.set(0, 8, 1);
        desk.set(1, 8, 6);
        meets(desk, 0, 7, 2);
        desk.set(0, 8, 0);
        meets(desk, 0, 0, 2);
    }

    @Says("from the first CELL of each THING that has a FACING and is there on a DAY")
    static void promise20_thereOnADay() {
        PictureDesk desk = new PictureDesk();
        desk.thing(5, 3, 1, 1, 1, 0, 10, 20);
        desk.set(0, 8, 0);
        for (int day = 0; day < 100; day++) {
            boolean isThere = day >= 10 && day <= 20;
            meets(desk, day, isThere ? 5 : NONE, isThere ? 1 : 0);
        }
    }

    @Says("MEET: the CELL on most LINES, of several the least number; how many.")
    static void promise20_mostLines() {
        PictureDesk desk = new PictureDesk();
        put(desk, 0, 4, 2);
        meets(desk, 0, 49, 1);
        put(desk, 4, 0, 4);
        meets(desk, 0, 52, 2);
        put(desk, 8, 0, 4);
        meets(desk, 0, 52, 2);
        put(desk, 8, 7, 0);
        meets(desk, 0, 56, 3);
        desk.set(0, 8, 8);
        meets(desk, 0, 20, 2);
    }

    @Says("MEET: the CELL on most LINES, of several the least number; how many.")
    static void promise20_allTwelveMeet() {
        PictureDesk desk = new PictureDesk();
        for (int i = 0; i < 12; i++) put(desk, i, 0, 4);
        meets(desk, 0, 12, 1);
        PictureDesk other = new PictureDesk();
        for (int i = 0; i < 12; i++) put(other, i < 11 ? i : 10, 3, 2);
        meets(other, 0, 47, 12);
    }

    @Says("NONE: no LINES")
    static void promise20_NONE_noLines() {
        PictureDesk desk = new PictureDesk();
        meets(desk, 0, NONE, 0);
        put(desk, 5, 3, 8);
        meets(desk, 0, NONE, 0);
        desk.thing(5, 3, 1, 1, 1, 0, 1, 99);
        desk.set(1, 8, 0);
        meets(desk, 0, NONE, 0);
        meets(desk, 1, 5, 1);
    }

    @Says("NONE: no LINES")
    static void promise20_NONE_straightOffTheLand() {
        PictureDesk desk = new PictureDesk();
        put(desk, 0, 0, 0);
        meets(desk, 0, NONE, 0);
        desk.set(0, 8, 7);
        meets(desk, 0, NONE, 0);
        put(desk, 11, 7, 3);
        meets(desk, 0, NONE, 0);
        desk.set(1, 8, 0);
        meets(desk, 0, 11, 1);
    }

    @Says("how many (1). OUTSIDE.")
    static void promise20_OUTSIDE_what() {
        PictureDesk desk = new PictureDesk();
        Due.range(n -> desk.meet(n[0], n[1]), Due.of(0, 0), 1, 0, 1, OUTSIDE);
    }

    @Says("DAYS are 0 to 99.")
    static void promise20_OUTSIDE_day() {
        PictureDesk desk = new PictureDesk();
        Due.range(n -> desk.meet(n[0], n[1]), Due.of(0, 0), 0, 0, 99, OUTSIDE);
    }

    // ---- promise 21

    @Says("each facing by lot one of 8 ways, have lines through that CELL")
    static void promise21_oneOf8WaysEach() {
        PictureDesk desk = new PictureDesk();
        int[][] places = {{4, 0}, {4, 7}, {0, 4}, {11, 4}, {1, 1}, {7, 7}, {8, 0}, {1, 7}, {4, 3}, {4, 5}, {3, 4}, {5, 4}};
        int[] ways = {4, 0, 2, 6, 3, 7, 5, 1, 4, 0, 2, 6};
        long lower = 1;
        for (int i = 0; i < 12; i++) {
            put(desk, places[i][0], places[i][1], ways[i]);
            lower *= 8;
            chances(desk, 0, 1, lower);
        }
        Due.is("8 to the twelfth", lower, 68719476736L);
        meets(desk, 0, 52, 12);
    }

    /** Three things: x, y, wide and long each, and how they face. */
    private static void countsEveryLot(int[][] things, int lot) {
        PictureDesk desk = new PictureDesk();
        for (int i = 0; i < 3; i++) {
            desk.thing(things[i][0], things[i][1], things[i][2], things[i][3], 1, 0, 0, 99);
            desk.set(i, 8, lot >> 3 * i & 7);
        }
        int cell = desk.meet(0, 0);
        if (cell == NONE) return;
        long through = 0;
        for (int other = 0; other < 512; other++) {
            boolean all = true;
            for (int i = 0; i < 3; i++) {
                int[] n = things[i];
                all &= lineOf(n[0], n[1], n[2], n[3], other >> 3 * i & 7).contains(cell);
            }
            if (all) through++;
        }
        long divisor = BigInteger.valueOf(through).gcd(BigInteger.valueOf(512)).longValueExact();
        chances(desk, 0, through / divisor, 512 / divisor);
    }

    @Says("each facing by lot one of 8 ways, have lines through that CELL")
    static void promise21_everyLotCounted() {
        int[][][] lands = {{{2, 2, 1, 1}, {6, 2, 2, 2}, {4, 6, 1, 1}}, {{0, 0, 4, 4}, {7, 3, 1, 1}, {3, 7, 1, 1}},
            {{5, 3, 1, 1}, {5, 3, 3, 1}, {5, 3, 1, 4}}};
        for (int[][] things : lands) for (int lot = 0; lot < 512; lot++) countsEveryLot(things, lot);
    }

    @Says("each facing by lot one of 8 ways, have lines through that CELL")
    static void promise21_whereItFacesDoesNotMatter() {
        PictureDesk desk = new PictureDesk();
        put(desk, 4, 0, 4);
        put(desk, 0, 4, 2);
        put(desk, 7, 7, 8);
        chances(desk, 0, 1, 64);
        for (int way = 0; way < 8; way++) {
            desk.set(2, 8, way);
            meets(desk, 0, 52, way == 7 ? 3 : 2);
            chances(desk, 0, 1, 512);
        }
    }

    @Says("(0 by 1 for none)")
    static void promise21_oneThatCanNot() {
        int[][] can = {{4, 0, 4}, {0, 4, 2}};
        for (int odd = 0; odd < 3; odd++) {
            PictureDesk desk = new PictureDesk();
            for (int i = 0; i < 3; i++) {
                int[] n = i == odd ? Due.of(9, 5, 4) : can[i < odd ? i : i - 1];
                put(desk, n[0], n[1], n[2]);
            }
            meets(desk, 0, 52, 2);
            chances(desk, 0, 0, 1);
        }
    }

    @Says("CELLS straight on by it (not those that it lies on)")
    static void promise21_oneThatLiesOnIt() {
        PictureDesk desk = new PictureDesk();
        put(desk, 4, 0, 4);
        put(desk, 0, 4, 2);
        desk.thing(3, 3, 2, 2, 1, 0, 0, 99);
        chances(desk, 0, 1, 64);
        desk.set(2, 8, 3);
        meets(desk, 0, 52, 2);
        chances(desk, 0, 0, 1);
        PictureDesk other = new PictureDesk();
        put(other, 4, 0, 4);
        put(other, 0, 4, 2);
        other.thing(3, 3, 1, 2, 1, 0, 0, 99);
        other.set(2, 8, 3);
        meets(other, 0, 52, 3);
        chances(other, 0, 1, 512);
    }

    @Says("each facing by lot one of 8 ways, have lines through that CELL")
    static void promise21_fromItsFirstCell() {
        for (int cell = 0; cell < 96; cell++) {
            int x = cell % 12, y = cell / 12;
            if (x == 5 && y == 3) continue;
            PictureDesk desk = new PictureDesk();
            put(desk, 5, 2, 4);
            put(desk, 4, 3, 2);
            desk.thing(x, y, 1, 1, 1, 0, 0, 99);
            // It faces off the line of the two, so that they meet where they did.
            desk.set(2, 8, y < 3 ? 0 : 4);
            boolean isStraight = x == 5 || y == 3 || Math.abs(x - 5) == Math.abs(y - 3);
            meets(desk, 0, 41, 2);
            chances(desk, 0, isStraight ? 1 : 0, isStraight ? 512 : 1);
        }
    }

    @Says("from the first CELL of each THING that has a FACING and is there on a DAY")
    static void promise21_oneThatIsNotThere() {
        PictureDesk desk = new PictureDesk();
        put(desk, 4, 0, 4);
        desk.thing(9, 5, 1, 1, 1, 0, 60, 60);
        desk.set(1, 8, 4);
        chances(desk, 59, 1, 8);
        chances(desk, 60, 0, 1);
        chances(desk, 61, 1, 8);
    }

    @Says("the odds that all THINGS with a FACING")
    static void promise21_oneWithoutAFacing() {
        PictureDesk desk = new PictureDesk();
        put(desk, 4, 0, 4);
        put(desk, 9, 5, 8);
        chances(desk, 0, 1, 8);
    }

    @Says("OUTSIDE, STATE: no LINES (LOST less 2, 3).")
    static void promise21_STATE_noLines() {
        PictureDesk desk = new PictureDesk();
        chances(desk, 0, LOST_STATE, LOST_STATE);
        put(desk, 5, 3, 8);
        chances(desk, 0, LOST_STATE, LOST_STATE);
        desk.thing(5, 3, 1, 1, 1, 0, 1, 98);
        desk.set(1, 8, 0);
        chances(desk, 0, LOST_STATE, LOST_STATE);
        chances(desk, 1, 1, 8);
        chances(desk, 98, 1, 8);
        chances(desk, 99, LOST_STATE, LOST_STATE);
    }

    @Says("OUTSIDE, STATE: no LINES (LOST less 2, 3).")
    static void promise21_STATE_straightOffTheLand() {
        PictureDesk desk = new PictureDesk();
        put(desk, 0, 0, 0);
        chances(desk, 0, LOST_STATE, LOST_STATE);
        put(desk, 0, 5, 0);
        meets(desk, 0, 0, 1);
        chances(desk, 0, 0, 1);
    }

    @Says("OUTSIDE, STATE: no LINES (LOST less 2, 3).")
    static void promise21_OUTSIDE_part() {
        PictureDesk desk = new PictureDesk();
        put(desk, 4, 0, 4);
        Due.range(n -> desk.chance(n[0], n[1]), Due.of(0, 0), 1, 0, 1, LOST_OUTSIDE);
    }

    @Says("DAYS are 0 to 99.")
    static void promise21_OUTSIDE_day() {
        PictureDesk desk = new PictureDesk();
        put(desk, 4, 0, 4);
        Due.range(n -> desk.chance(n[0], n[1]), Due.of(0, 0), 0, 0, 99, LOST_OUTSIDE);
    }

    @Says("Calls that are refused answer, the first of these that fits")
    static void promise21_OUTSIDE_aheadOfSTATE() {
        Due.is("part 2", new PictureDesk().chance(0, 2), LOST_OUTSIDE);
        Due.is("day 100", new PictureDesk().chance(100, 0), LOST_OUTSIDE);
    }

    // ---- promise 22

    private static PictureDesk things(int many) {
        PictureDesk desk = new PictureDesk();
        for (int i = 0; i < many; i++) desk.thing(0, 0, 1, 1, 1, 0, 60, 60);
        return desk;
    }

    @Says("A THING did something on a DAY, or not: whether so (1, 0).")
    static void promise22_whetherSo() {
        PictureDesk desk = things(1);
        for (int day = 0; day < 100; day++) {
            Due.is("not at first", desk.did(0, day, true), 0);
            Due.is("it did", desk.did(0, day, true), 1);
        }
        for (int day = 0; day < 100; day++) {
            Due.is("no more", desk.did(0, day, false), 1);
            Due.is("it did not", desk.did(0, day, false), 0);
        }
    }

    @Says("A THING did something on a DAY, or not: whether so (1, 0).")
    static void promise22_eachThingHasItsOwn() {
        PictureDesk desk = things(12);
        for (int i = 0; i < 12; i++) Due.is("first", desk.did(i, 58 + i, true), 0);
        for (int i = 0; i < 12; i++) for (int day = 58; day < 70; day++) {
            Due.is("thing " + i + " on " + day, desk.did(i, day, day == 58 + i), day == 58 + i ? 1 : 0);
        }
    }

    @Says("whether so (1, 0). UNKNOWN; OUTSIDE.")
    static void promise22_OUTSIDE_day() {
        PictureDesk desk = things(1);
        Due.range(n -> desk.did(n[0], n[1], true), Due.of(0, 0), 1, 0, 99, OUTSIDE);
        Due.range(n -> desk.did(n[0], n[1], false), Due.of(0, 0), 1, 0, 99, OUTSIDE);
    }

    @Says("whether so (1, 0). UNKNOWN; OUTSIDE.")
    static void promise22_UNKNOWN_thing() {
        for (int many = 1; many <= 12; many++) {
            PictureDesk desk = things(many);
            Due.range(n -> desk.did(n[0], n[1], true), Due.of(0, 0), 0, 0, many - 1, UNKNOWN);
        }
        Due.is("of none", new PictureDesk().did(0, 0, true), UNKNOWN);
    }

    @Says("Calls that are refused answer, the first of these that fits")
    static void promise22_UNKNOWN_aheadOfOUTSIDE() {
        Due.is("did(1, 100, true)", things(1).did(1, 100, true), UNKNOWN);
    }

    // ---- promise 23

    private static void decoys(PictureDesk desk, int from, int to, int q, int without) {
        BigInteger upper = BigInteger.valueOf(20 - q).pow(without);
        BigInteger lower = BigInteger.valueOf(20).pow(without);
        BigInteger divisor = upper.gcd(lower);
        String call = "decoy(0, " + from + ", " + to + ", " + q + ")";
        Due.is(call + ", upper", desk.decoy(0, from, to, q, 0), upper.divide(divisor).longValueExact());
        Due.is(call + ", lower", desk.decoy(0, from, to, q, 1), lower.divide(divisor).longValueExact());
    }

    @Says("if a true one does something on each DAY with ODDS of q twentieths (1 to 19)")
    static void promise23_everyOddsAndNumberOfDays() {
        for (int q = 1; q <= 19; q++) {
            PictureDesk desk = things(1);
            for (int without = 1; without <= 12; without++) {
                decoys(desk, 0, without - 1, q, without);
                decoys(desk, 100 - without, 99, q, without);
            }
        }
    }

    @Says("0 the upper, 1 the lower number, in lowest terms")
    static void promise23_lowestTerms() {
        PictureDesk desk = things(1);
        Due.is("12 by 20, upper", desk.decoy(0, 0, 0, 8, 0), 3);
        Due.is("12 by 20, lower", desk.decoy(0, 0, 0, 8, 1), 5);
        Due.is("10 by 20, upper", desk.decoy(0, 0, 11, 10, 0), 1);
        Due.is("10 by 20, lower", desk.decoy(0, 0, 11, 10, 1), 4096);
        Due.is("1 by 20, lower", desk.decoy(0, 0, 11, 19, 1), 4096000000000000L);
        Due.is("19 by 20, upper", desk.decoy(0, 0, 11, 1, 0), 2213314919066161L);
    }

    @Says("but those on which it did: as many DAYS without")
    static void promise23_butThoseOnWhichItDid() {
        PictureDesk desk = things(2);
        desk.did(0, 10, true);
        desk.did(0, 14, true);
        desk.did(1, 12, true);
        decoys(desk, 10, 14, 5, 3);
        decoys(desk, 9, 15, 5, 5);
        decoys(desk, 11, 13, 5, 3);
        decoys(desk, 10, 10, 5, 0);
        decoys(desk, 14, 14, 5, 0);
        desk.did(0, 10, false);
        decoys(desk, 10, 14, 5, 4);
    }

    @Says("but those on which it did: as many DAYS without")
    static void promise23_noneWithout() {
        PictureDesk desk = things(1);
        for (int day = 30; day < 40; day++) desk.did(0, day, true);
        for (int q = 1; q <= 19; q++) decoys(desk, 30, 39, q, 0);
    }

    @Says("no more than 12 DAYS without")
    static void promise23_OUTSIDE_13DaysWithout() {
        PictureDesk desk = things(1);
        for (int part = 0; part < 2; part++) Due.is("13", desk.decoy(0, 0, 12, 10, part), LOST_OUTSIDE);
        Due.is("100", desk.decoy(0, 0, 99, 10, 0), LOST_OUTSIDE);
        desk.did(0, 12, true);
        decoys(desk, 0, 12, 10, 12);
        for (int day = 0; day < 88; day++) desk.did(0, day, true);
        decoys(desk, 0, 99, 10, 12);
        desk.did(0, 0, false);
        Due.is("13 of 100", desk.decoy(0, 0, 99, 10, 0), LOST_OUTSIDE);
    }

    @Says("OUTSIDE: from not above to")
    static void promise23_OUTSIDE_fromAboveTo() {
        PictureDesk desk = things(1);
        for (int day = 0; day < 99; day++) {
            Due.is("from above to", desk.decoy(0, day + 1, day, 10, 0), LOST_OUTSIDE);
            decoys(desk, day, day, 10, 1);
        }
        Due.is("from 99 to 0", desk.decoy(0, 99, 0, 10, 1), LOST_OUTSIDE);
    }

    @Says("DAYS are 0 to 99.")
    static void promise23_OUTSIDE_days() {
        PictureDesk desk = things(1);
        for (int day = 0; day < 100; day++) desk.did(0, day, true);
        Due.range(n -> desk.decoy(n[0], n[1], n[2], n[3], n[4]), Due.of(0, 0, 99, 5, 0), 1, 0, 99, LOST_OUTSIDE);
        Due.range(n -> desk.decoy(n[0], n[1], n[2], n[3], n[4]), Due.of(0, 0, 0, 5, 0), 2, 0, 99, LOST_OUTSIDE);
    }

    @Says("with ODDS of q twentieths (1 to 19)")
    static void promise23_OUTSIDE_odds() {
        PictureDesk desk = things(1);
        Due.range(n -> desk.decoy(n[0], n[1], n[2], n[3], n[4]), Due.of(0, 0, 0, 5, 0), 3, 1, 19, LOST_OUTSIDE);
    }

    @Says("Fractions are told by part: 0 the upper, 1 the lower number")
    static void promise23_OUTSIDE_part() {
        PictureDesk desk = things(1);
        Due.range(n -> desk.decoy(n[0], n[1], n[2], n[3], n[4]), Due.of(0, 0, 0, 5, 0), 4, 0, 1, LOST_OUTSIDE);
    }

    @Says("DECOY: the odds. UNKNOWN; OUTSIDE")
    static void promise23_UNKNOWN_thing() {
        PictureDesk desk = things(3);
        Due.range(n -> desk.decoy(n[0], n[1], n[2], n[3], n[4]), Due.of(0, 0, 0, 5, 0), 0, 0, 2, LOST_UNKNOWN);
        Due.is("of none", new PictureDesk().decoy(0, 0, 0, 5, 0), LOST_UNKNOWN);
    }

    @Says("Calls that are refused answer, the first of these that fits")
    static void promise23_UNKNOWN_aheadOfOUTSIDE() {
        int[][] refused = {{-1, 0, 5, 0}, {1, 0, 5, 0}, {0, 100, 5, 0}, {0, 12, 5, 0}, {0, 0, 0, 0}, {0, 0, 5, 2}};
        for (int[] n : refused) Due.is("no thing", things(1).decoy(1, n[0], n[1], n[2], n[3]), LOST_UNKNOWN);
    }

    // ---- promise 24

    @Says("the least number of DAYS without (0 to 12) by which these odds are s hundredths or less")
    static void promise24_everyNumber() {
        for (int q = 1; q <= 19; q++) {
            PictureDesk desk = new PictureDesk();
            for (int s = 0; s <= 100; s++) Due.is("sure(" + q + ", " + s + ")", desk.sure(q, s), leastDays(q, s));
        }
    }

    private static int leastDays(int q, int s) {
        for (int days = 0; days <= 12; days++) {
            BigInteger odds = BigInteger.valueOf(20 - q).pow(days).multiply(BigInteger.valueOf(100));
            if (odds.compareTo(BigInteger.valueOf(20).pow(days).multiply(BigInteger.valueOf(s))) <= 0) return days;
        }
        return NONE;
    }

    @Says("by which these odds are s hundredths or less")
    static void promise24_justAsMuch() {
        PictureDesk desk = new PictureDesk();
        Due.is("a half", desk.sure(10, 50), 1);
        Due.is("less than a half", desk.sure(10, 49), 2);
        Due.is("a quarter", desk.sure(10, 25), 2);
        Due.is("less than a quarter", desk.sure(10, 24), 3);
        Due.is("no day", desk.sure(1, 100), 0);
        Due.is("one day", desk.sure(1, 99), 1);
        Due.is("95 hundredths", desk.sure(1, 95), 1);
        Due.is("94 hundredths", desk.sure(1, 94), 2);
    }

    @Says("SURE; NONE. OUTSIDE: q, s 0 to 100.")
    static void promise24_NONE_moreThan12Days() {
        PictureDesk desk = new PictureDesk();
        Due.is("12 days", desk.sure(1, 55), 12);
        Due.is("more than 12 days", desk.sure(1, 54), NONE);
        for (int q = 1; q <= 19; q++) Due.is("never 0", desk.sure(q, 0), NONE);
    }

    @Says("SURE; NONE. OUTSIDE: q, s 0 to 100.")
    static void promise24_OUTSIDE_hundredths() {
        PictureDesk desk = new PictureDesk();
        Due.range(n -> desk.sure(n[0], n[1]), Due.of(5, 50), 1, 0, 100, OUTSIDE);
    }

    @Says("with ODDS of q twentieths (1 to 19)")
    static void promise24_OUTSIDE_odds() {
        PictureDesk desk = new PictureDesk();
        Due.range(n -> desk.sure(n[0], n[1]), Due.of(5, 50), 0, 1, 19, OUTSIDE);
    }
}
