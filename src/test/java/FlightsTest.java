import java.math.BigInteger;

/** Promises 25 to 29: flights, readers, and how much there is. */
final class FlightsTest {
    private static final int UNKNOWN = -1, OUTSIDE = -2;
    private static final long LOST_OUTSIDE = PictureDesk.LOST - 2;

    public static void main(String[] args) {
        Due.run(FlightsTest.class);
    }

    /** A wanted thing of one cell in each of these columns. */
    private static PictureDesk wanted(int... columns) {
        PictureDesk desk = new PictureDesk();
        for (int i = 0; i < columns.length; i++) {
            desk.thing(columns[i], 0, 1, 1, 1, 0, 0, 0);
            desk.set(i, 10, 1);
        }
        return desk;
    }

    private static void worths(PictureDesk desk, int set, long upper, long lower) {
        Due.is("worth of " + set + ", upper", desk.worth(set, 0), upper);
        Due.is("worth of " + set + ", lower", desk.worth(set, 1), lower);
    }

    private static void bests(PictureDesk desk, int purse, int set, int risk) {
        Due.is("best for " + purse, desk.best(purse, 0), set);
        Due.is("best for " + purse + ", risk", desk.best(purse, 1), risk);
    }

    private static long fly(PictureDesk desk, int... n) {
        return desk.flight(n[0], n[1], n[2], n[3], n[4]);
    }

    private static long flyNew(int... n) {
        return fly(new PictureDesk(), n);
    }

    // ---- promise 25

    @Says("A FLIGHT: 1.")
    static void promise25_eachOf8() {
        PictureDesk desk = wanted(0);
        for (int flight = 0; flight < 8; flight++) {
            Due.is("flight " + flight, desk.flight(flight, 0, 0, flight + 1, 0), 1);
            Due.is("again", desk.flight(flight, 0, 0, flight + 1, 0), 1);
        }
        for (int flight = 0; flight < 8; flight++) {
            Due.is("its own weather", desk.worth(1 << flight, 0) * 10, (flight + 1) * desk.worth(1 << flight, 1));
        }
    }

    @Says("A FLIGHT: 1.")
    static void promise25_aNewOneTakesTheOldOnesPlace() {
        PictureDesk desk = wanted(0, 11);
        desk.flight(3, 0, 11, 10, 60);
        worths(desk, 8, 2, 1);
        bests(desk, 60, 8, 60);
        desk.flight(3, 11, 11, 5, 10);
        worths(desk, 8, 1, 2);
        bests(desk, 60, 8, 10);
        desk.flight(3, 0, 0, 0, 0);
        worths(desk, 8, 0, 1);
    }

    @Says("columns from x to x (0 to 0 at first), WEATHER (0 to 10 tenths that it comes off; 0 at first), RISK (0 to 100; 0)")
    static void promise25_atFirst() {
        PictureDesk desk = wanted(0, 5, 11);
        for (int flight = 0; flight < 8; flight++) worths(desk, 1 << flight, 0, 1);
        worths(desk, 255, 0, 1);
        bests(desk, 800, 0, 0);
    }

    @Says("They change nothing.")
    static void promise25_OUTSIDE_theOldOneStays() {
        PictureDesk desk = wanted(5);
        desk.flight(0, 5, 5, 7, 30);
        int[][] refused = {{0, 5, 4, 1, 1}, {0, -1, 4, 1, 1}, {0, 0, 12, 1, 1}, {0, 0, 0, 11, 1}, {0, 0, 0, -1, 1},
            {0, 0, 0, 1, 101}, {0, 0, 0, 1, -1}};
        for (int[] n : refused) Due.is("refused", fly(desk, n), OUTSIDE);
        worths(desk, 1, 7, 10);
        bests(desk, 29, 0, 0);
        bests(desk, 30, 1, 30);
    }

    @Says("OUTSIDE: columns from not above to, WEATHER, RISK.")
    static void promise25_OUTSIDE_columns() {
        Due.range(FlightsTest::flyNew, Due.of(0, 0, 11, 0, 0), 1, 0, 11, OUTSIDE);
        Due.range(FlightsTest::flyNew, Due.of(0, 0, 0, 0, 0), 2, 0, 11, OUTSIDE);
    }

    @Says("OUTSIDE: columns from not above to, WEATHER, RISK.")
    static void promise25_OUTSIDE_fromAboveTo() {
        for (int from = 0; from < 12; from++) for (int to = 0; to < 12; to++) {
            Due.is("from " + from + " to " + to, flyNew(0, from, to, 0, 0), from > to ? OUTSIDE : 1);
        }
    }

    @Says("WEATHER (0 to 10 tenths that it comes off; 0 at first)")
    static void promise25_OUTSIDE_weather() {
        Due.range(FlightsTest::flyNew, Due.of(0, 0, 0, 0, 0), 3, 0, 10, OUTSIDE);
    }

    @Says("RISK (0 to 100; 0)")
    static void promise25_OUTSIDE_risk() {
        Due.range(FlightsTest::flyNew, Due.of(0, 0, 0, 0, 0), 4, 0, 100, OUTSIDE);
    }

    @Says("UNKNOWN: 0 to 7; OUTSIDE")
    static void promise25_UNKNOWN_0To7() {
        Due.range(FlightsTest::flyNew, Due.of(0, 0, 0, 0, 0), 0, 0, 7, UNKNOWN);
    }

    @Says("Calls that are refused answer, the first of these that fits")
    static void promise25_UNKNOWN_aheadOfOUTSIDE() {
        Due.is("from above to", flyNew(8, 5, 4, 0, 0), UNKNOWN);
        Due.is("weather 11", flyNew(-1, 0, 0, 11, 0), UNKNOWN);
        Due.is("risk 101", flyNew(8, 0, 0, 0, 101), UNKNOWN);
    }

    // ---- promise 26

    @Says("WORTH of a set: the odds of all WANTED ones, together, as a fraction.")
    static void promise26_everyWeather() {
        for (int weather = 0; weather <= 10; weather++) {
            PictureDesk desk = wanted(4);
            desk.flight(6, 0, 11, weather, 0);
            Due.is("tenths", 10 * desk.worth(64, 0), weather * desk.worth(64, 1));
        }
    }

    @Says("A set of FLIGHTS SETTLES a WANTED one, if one comes off that covers the column of its first CELL.")
    static void promise26_ifOneComesOff() {
        PictureDesk desk = wanted(0);
        for (int i = 0; i < 8; i++) desk.flight(i, 0, 0, 1, 0);
        worths(desk, 0, 0, 1);
        worths(desk, 0x01, 1, 10);
        worths(desk, 0x81, 19, 100);
        worths(desk, 0x7f, 10000000 - 4782969, 10000000);
        worths(desk, 0xff, 100000000 - 43046721, 100000000);
        desk.flight(7, 0, 0, 10, 0);
        worths(desk, 0xff, 1, 1);
    }

    /** Columns from and to, and weather, of 8 flights. */
    private static final int[][] PLANS = {{0, 3, 7}, {2, 9, 4}, {5, 5, 10}, {8, 11, 0}, {0, 11, 1}, {3, 6, 9}, {11, 11, 5}, {1, 7, 3}};

    private static long weightOf(int outcome, int set) {
        long weight = 1;
        for (int i = 0; i < 8; i++) {
            if ((set >> i & 1) == 0) weight *= 10;
            else weight *= (outcome >> i & 1) == 1 ? PLANS[i][2] : 10 - PLANS[i][2];
        }
        return weight;
    }

    private static boolean isSettled(int column, int outcome) {
        for (int i = 0; i < 8; i++) {
            boolean comesOff = (outcome >> i & 1) == 1;
            if (comesOff && column >= PLANS[i][0] && column <= PLANS[i][1]) return true;
        }
        return false;
    }

    @Says("A set of FLIGHTS SETTLES a WANTED one, if one comes off that covers the column of its first CELL.")
    static void promise26_everyOutcomeCounted() {
        int[] columns = {0, 2, 4, 5, 7, 9, 10, 11};
        for (int set = 0; set < 256; set++) {
            long settled = 0;
            for (int outcome = 0; outcome < 256; outcome++) {
                // Outcomes in which a flight beside the set comes off are none of this set's.
                if ((outcome & ~set) != 0) continue;
                for (int column : columns) if (isSettled(column, outcome)) settled += weightOf(outcome, set);
            }
            PictureDesk desk = wanted(columns);
            for (int i = 0; i < 8; i++) desk.flight(i, PLANS[i][0], PLANS[i][1], PLANS[i][2], 0);
            long divisor = BigInteger.valueOf(settled).gcd(BigInteger.valueOf(100000000)).longValueExact();
            worths(desk, set, settled / divisor, 100000000 / divisor);
        }
    }

    @Says("A set of FLIGHTS SETTLES a WANTED one, if one comes off that covers the column of its first CELL.")
    static void promise26_theColumnOfItsFirstCell() {
        for (int from = 0; from < 12; from++) for (int to = from; to < 12; to++) {
            PictureDesk desk = new PictureDesk();
            desk.thing(4, 2, 4, 4, 1, 0, 0, 0);
            desk.set(0, 10, 1);
            desk.flight(0, from, to, 10, 0);
            worths(desk, 1, from <= 4 && to >= 4 ? 1 : 0, 1);
        }
    }

    @Says("WORTH of a set: the odds of all WANTED ones, together, as a fraction.")
    static void promise26_allWantedOnesTogether() {
        PictureDesk desk = wanted(0, 1, 2, 3, 4, 5, 6, 7, 8, 9, 10, 11);
        desk.flight(0, 0, 11, 10, 0);
        worths(desk, 1, 12, 1);
        desk.set(3, 10, 0);
        worths(desk, 1, 11, 1);
        desk.flight(1, 0, 3, 5, 0);
        worths(desk, 2, 3, 2);
        desk.flight(2, 2, 5, 5, 0);
        worths(desk, 6, 11, 4);
    }

    @Says("A THING is WANTED or not.")
    static void promise26_wantedOnEveryDay() {
        PictureDesk desk = new PictureDesk();
        desk.thing(0, 0, 1, 1, 1, 0, 99, 99);
        desk.thing(0, 0, 1, 1, 20, 0, 99, 99);
        desk.set(0, 10, 1);
        desk.set(0, 9, 1);
        desk.flight(0, 0, 0, 3, 0);
        worths(desk, 1, 3, 10);
        desk.set(0, 10, 0);
        worths(desk, 1, 0, 1);
    }

    @Says("in lowest terms (0 by 1 for none)")
    static void promise26_lowestTerms() {
        PictureDesk desk = wanted(5);
        int[][] terms = {{0, 1}, {1, 10}, {1, 5}, {3, 10}, {2, 5}, {1, 2}, {3, 5}, {7, 10}, {4, 5}, {9, 10}, {1, 1}};
        for (int weather = 0; weather <= 10; weather++) {
            desk.flight(0, 5, 5, weather, 0);
            worths(desk, 1, terms[weather][0], terms[weather][1]);
        }
    }

    @Says("(0 by 1 for none)")
    static void promise26_nothingWanted() {
        PictureDesk desk = new PictureDesk();
        for (int set = 0; set < 256; set++) worths(desk, set, 0, 1);
    }

    @Says("WORTH of a set of FLIGHTS (bits). OUTSIDE.")
    static void promise26_OUTSIDE_set() {
        PictureDesk desk = wanted(5);
        Due.range(n -> desk.worth(n[0], n[1]), Due.of(0, 0), 0, 0, 255, LOST_OUTSIDE);
    }

    @Says("refused with LOST and the refusal")
    static void promise26_OUTSIDE_part() {
        PictureDesk desk = wanted(5);
        Due.range(n -> desk.worth(n[0], n[1]), Due.of(0, 0), 1, 0, 1, LOST_OUTSIDE);
    }

    // ---- promise 27

    @Says("a set whose RISKS together are no more")
    static void promise27_noMoreThanThePurse() {
        PictureDesk desk = wanted(5);
        desk.flight(0, 5, 5, 5, 30);
        desk.flight(5, 5, 5, 5, 40);
        bests(desk, 0, 0, 0);
        bests(desk, 29, 0, 0);
        bests(desk, 30, 1, 30);
        bests(desk, 69, 1, 30);
        bests(desk, 70, 33, 70);
        bests(desk, 800, 33, 70);
    }

    @Says("BEST for a PURSE (0 to 800)")
    static void promise27_all8For800() {
        PictureDesk desk = wanted(5);
        for (int i = 0; i < 8; i++) desk.flight(i, 5, 5, 1, 100);
        for (int purse = 0; purse < 800; purse += 100) {
            int many = purse / 100;
            bests(desk, purse, (1 << many) - 1, purse);
            bests(desk, purse + 99, (1 << many) - 1, purse);
        }
        bests(desk, 800, 255, 800);
    }

    @Says("of the most WORTH, of several the least RISK, then the least as bits")
    static void promise27_ofTheMostWorth() {
        PictureDesk desk = wanted(1, 5, 9);
        desk.flight(0, 5, 5, 9, 1);
        desk.flight(1, 1, 5, 5, 50);
        bests(desk, 1, 1, 1);
        bests(desk, 50, 2, 50);
        bests(desk, 51, 3, 51);
        desk.flight(2, 1, 9, 4, 51);
        bests(desk, 50, 2, 50);
        bests(desk, 51, 3, 51);
        desk.flight(2, 1, 9, 5, 51);
        bests(desk, 51, 4, 51);
    }

    @Says("of the most WORTH, of several the least RISK, then the least as bits")
    static void promise27_theLeastThatCanBeWon() {
        PictureDesk desk = wanted(5);
        for (int i = 0; i < 7; i++) desk.flight(i, 5, 5, 9, 0);
        desk.flight(7, 5, 5, 1, 100);
        worths(desk, 127, 9999999, 10000000);
        worths(desk, 255, 99999991, 100000000);
        bests(desk, 99, 127, 0);
        bests(desk, 100, 255, 100);
    }

    @Says("of the most WORTH, of several the least RISK, then the least as bits")
    static void promise27_ofSeveralTheLeastRisk() {
        PictureDesk desk = wanted(5);
        desk.flight(0, 5, 5, 10, 100);
        desk.flight(1, 5, 5, 10, 60);
        desk.flight(7, 5, 5, 10, 59);
        bests(desk, 800, 128, 59);
        desk.flight(2, 0, 4, 10, 1);
        bests(desk, 800, 128, 59);
        desk.flight(6, 5, 5, 10, 0);
        bests(desk, 800, 64, 0);
        bests(desk, 0, 64, 0);
    }

    @Says("of the most WORTH, of several the least RISK, then the least as bits")
    static void promise27_thenTheLeastAsBits() {
        PictureDesk desk = wanted(5);
        for (int i = 7; i >= 0; i--) {
            desk.flight(i, 5, 5, 10, 20);
            bests(desk, 800, 1 << i, 20);
        }
        desk.flight(3, 0, 4, 10, 0);
        bests(desk, 800, 1, 20);
        PictureDesk other = wanted(5);
        other.flight(0, 5, 5, 0, 0);
        other.flight(1, 5, 5, 5, 0);
        bests(other, 0, 2, 0);
    }

    @Says("of the most WORTH, of several the least RISK, then the least as bits")
    static void promise27_nothingWanted() {
        PictureDesk desk = new PictureDesk();
        for (int i = 0; i < 8; i++) desk.flight(i, 0, 11, 10, i % 2);
        bests(desk, 0, 0, 0);
        bests(desk, 800, 0, 0);
    }

    @Says("BEST: the set (what = 0), its RISK (1). OUTSIDE.")
    static void promise27_OUTSIDE_what() {
        PictureDesk desk = wanted(5);
        Due.range(n -> desk.best(n[0], n[1]), Due.of(0, 0), 1, 0, 1, OUTSIDE);
    }

    @Says("BEST for a PURSE (0 to 800)")
    static void promise27_OUTSIDE_purse() {
        Due.range(n -> wanted(5).best(n[0], n[1]), Due.of(0, 0), 0, 0, 800, OUTSIDE);
    }

    // ---- promise 28

    private static BigInteger choices(int all, int taken) {
        if (taken < 0 || taken > all) return BigInteger.ZERO;
        BigInteger ways = BigInteger.ONE;
        for (int i = 0; i < taken; i++) {
            ways = ways.multiply(BigInteger.valueOf(all - i)).divide(BigInteger.valueOf(i + 1));
        }
        return ways;
    }

    private static void leans(PictureDesk desk, int a, int n, int b, int m) {
        BigInteger upper = BigInteger.ZERO;
        for (int i = a; i <= n; i++) upper = upper.add(choices(n, i).multiply(choices(m, a + b - i)));
        BigInteger lower = choices(n + m, a + b);
        BigInteger divisor = upper.gcd(lower);
        String call = "lean(" + a + ", " + n + ", " + b + ", " + m + ")";
        Due.is(call + ", upper", desk.lean(a, n, b, m, 0), upper.divide(divisor).longValueExact());
        Due.is(call + ", lower", desk.lean(a, n, b, m, 1), lower.divide(divisor).longValueExact());
    }

    @Says("the odds that, all who saw it being dealt by lot among all, as many or more are among the told ones")
    static void promise28_everyNumberOfReaders() {
        for (int n = 1; n <= 20; n++) for (int m = 1; m <= 20; m++) for (int a = 0; a <= n; a++) {
            PictureDesk desk = new PictureDesk();
            for (int b = 0; b <= m; b++) leans(desk, a, n, b, m);
        }
    }

    /** Counted out by hand, reader by reader. */
    @Says("the odds that, all who saw it being dealt by lot among all, as many or more are among the told ones")
    static void promise28_dealtOneByOne() {
        for (int n = 1; n <= 4; n++) for (int m = 1; m <= 4; m++) {
            for (int a = 0; a <= n; a++) for (int b = 0; b <= m; b++) {
                long deals = 0, asMany = 0;
                for (int who = 0; who < 1 << n + m; who++) {
                    if (Integer.bitCount(who) != a + b) continue;
                    deals++;
                    if (Integer.bitCount(who & (1 << n) - 1) >= a) asMany++;
                }
                PictureDesk desk = new PictureDesk();
                Due.is("lean", asMany * desk.lean(a, n, b, m, 1), deals * desk.lean(a, n, b, m, 0));
            }
        }
    }

    @Says("in lowest terms (0 by 1 for none)")
    static void promise28_lowestTerms() {
        PictureDesk desk = new PictureDesk();
        int[][] calls = {{0, 1, 0, 1}, {1, 1, 0, 1}, {20, 20, 20, 20}, {2, 3, 1, 2}, {20, 20, 0, 20}, {0, 20, 20, 20}};
        long[][] want = {{1, 1}, {1, 2}, {1, 1}, {7, 10}, {1, 137846528820L}, {1, 1}};
        for (int i = 0; i < calls.length; i++) for (int part = 0; part < 2; part++) {
            int[] n = calls[i];
            Due.is("case " + i, desk.lean(n[0], n[1], n[2], n[3], part), want[i][part]);
        }
    }

    private static long lean(int... n) {
        return new PictureDesk().lean(n[0], n[1], n[2], n[3], n[4]);
    }

    @Says("OUTSIDE: a 0 to n, b 0 to m.")
    static void promise28_OUTSIDE_howManySawIt() {
        for (int all = 1; all <= 20; all++) {
            Due.range(FlightsTest::lean, Due.of(0, all, 0, 20, 0), 0, 0, all, LOST_OUTSIDE);
            Due.range(FlightsTest::lean, Due.of(0, 20, 0, all, 0), 2, 0, all, LOST_OUTSIDE);
        }
    }

    @Says("of n READERS (1 to 20) who were told, a saw it; of m (1 to 20) who were not, b did")
    static void promise28_OUTSIDE_readers() {
        Due.range(FlightsTest::lean, Due.of(0, 1, 0, 1, 0), 1, 1, 20, LOST_OUTSIDE);
        Due.range(FlightsTest::lean, Due.of(0, 1, 0, 1, 0), 3, 1, 20, LOST_OUTSIDE);
    }

    @Says("refused with LOST and the refusal")
    static void promise28_OUTSIDE_part() {
        Due.range(FlightsTest::lean, Due.of(0, 1, 0, 1, 0), 4, 0, 1, LOST_OUTSIDE);
    }

    // ---- promise 29

    @Says("0 THINGS, 1 PICTURES, 2 signs, 3 USES that there are, as bits.")
    static void promise29_howMuchThereIs() {
        PictureDesk desk = new PictureDesk();
        for (int i = 0; i < 3; i++) desk.thing(0, 0, 1, 1, 1, 0, 0, 0);
        for (int i = 0; i < 5; i++) desk.picture(0, 0, 0, 0, 0);
        Due.use(desk, 1, "s>1");
        Due.say(desk, "s>1&k=2");
        int[] want = {3, 5, 7, 2};
        for (int what = 0; what < 4; what++) Due.is("told(" + what + ")", desk.told(what), want[what]);
    }

    @Says("3 USES that there are, as bits")
    static void promise29_usesAsBits() {
        for (int bits = 0; bits < 32; bits++) {
            PictureDesk desk = new PictureDesk();
            for (int use = 0; use < 5; use++) {
                if ((bits >> use & 1) == 1) Due.use(desk, use, "s>1");
            }
            Due.is("told(3)", desk.told(3), bits);
        }
    }

    @Says("3 USES that there are, as bits. OUTSIDE.")
    static void promise29_OUTSIDE_what() {
        PictureDesk desk = new PictureDesk();
        Due.range(n -> desk.told(n[0]), Due.of(0), 0, 0, 3, OUTSIDE);
    }
}
