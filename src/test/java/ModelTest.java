import java.util.Random;

/** Runs of random calls, wrong ones among them, answered by the class and by the plain model alike. */
final class ModelTest {
    private static final int RUNS = 400, CALLS = 512;
    /** A text of four tests, said, looked at and kept, takes fewer calls. */
    private static final int CALLS_OF_A_TEXT = 30;
    private static final int[] ODD = {-1, Integer.MIN_VALUE, Integer.MAX_VALUE, 1000, -6, 96, 100, 12};
    private static final String[] TESTS = {"s>0", "s=4", "k=1", "k<3", "h>9", "h<15", "n0<4", "n1>6", "n2=99", "n3<9",
        "n4>20", "n5=3", "s<10", "s", "n6=1", "h=123", "x=1"};
    private final Random lot;
    private final PictureDesk desk = new PictureDesk();
    private final PlainDesk plain = new PlainDesk();

    private ModelTest(long seed) {
        lot = new Random(seed);
    }

    public static void main(String[] args) {
        Due.run(ModelTest.class);
    }

    @Says("An object is used for at most 512 calls after it has been made")
    static void terms_randomCallsAsInThePlainModel() {
        for (int run = 0; run < RUNS && Due.allRight(); run++) new ModelTest(run).run(run);
    }

    @Says("Calls that are refused answer, the first of these that fits")
    static void terms_oddNumbersAsInThePlainModel() {
        for (int run = 0; run < 50 && Due.allRight(); run++) new ModelTest(run).runOdd(run);
    }

    private int any(int least, int greatest) {
        if (lot.nextInt(60) == 0) return ODD[lot.nextInt(ODD.length)];
        return least + lot.nextInt(greatest - least + 1);
    }

    private int fair(int least, int greatest) {
        return least + lot.nextInt(greatest - least + 1);
    }

    private void run(int run) {
        int made = 0;
        while (made < CALLS) {
            int call = made < 24 ? lot.nextInt(3) == 0 ? lot.nextInt(28) : 4 * lot.nextInt(2) : lot.nextInt(28);
            made += call == 10 && made + CALLS_OF_A_TEXT <= CALLS ? sayText(run) : one(run, call);
        }
    }

    private void runOdd(int run) {
        for (int i = 0; i < CALLS; i++) one(run, lot.nextInt(28), ODD[lot.nextInt(ODD.length)]);
    }

    private int sayText(int run) {
        StringBuilder text = new StringBuilder();
        int parts = fair(1, 4);
        for (int i = 0; i < parts; i++) {
            if (i > 0) text.append(lot.nextBoolean() ? '&' : '|');
            text.append(TESTS[lot.nextInt(lot.nextInt(4) == 0 ? TESTS.length : TESTS.length - 4)]);
        }
        if (lot.nextInt(20) > 0) same(run, "wipe()", desk.wipe(), plain.wipe());
        for (int i = 0; i < text.length(); i++) {
            same(run, "say", desk.say(text.charAt(i)), plain.say(text.charAt(i)));
        }
        same(run, "fault() of " + text, desk.fault(), plain.fault());
        int use = any(0, 4);
        same(run, "use(" + use + ") as " + text, desk.use(use), plain.use(use));
        return text.length() + 3;
    }

    private int one(int run, int call) {
        int cell = any(0, 95), day = any(0, 99), thing = any(0, 11), picture = any(0, 9);
        int part = any(0, 1), what = any(0, 3), x = any(0, 11), to = any(0, 11);
        boolean is = lot.nextInt(3) > 0;
        switch (call) {
            case 0: thing(run, x, any(0, 7), any(1, 4), any(1, 4), any(1, 20), any(0, 5), any(0, 50), any(30, 99)); break;
            case 1: what = any(0, 10); same(run, "of", desk.of(thing, what), plain.of(thing, what)); break;
            case 2: setOne(run, thing, any(8, 10)); break;
            case 3: same(run, "at", desk.at(cell, day), plain.at(cell, day)); break;
            case 4: pictureOne(run, Math.min(x, to), lot.nextInt(3) == 0 ? 11 : to, day, any(0, 3), any(0, 20)); break;
            case 5: same(run, "cloud", desk.cloud(picture, cell, is), plain.cloud(picture, cell, is)); break;
            case 6: same(run, "shows", desk.shows(picture, cell), plain.shows(picture, cell)); break;
            case 7: same(run, "count", desk.count(picture, what), plain.count(picture, what)); break;
            case 8: x = any(0, 11); same(run, "span", desk.span(picture, x, part), plain.span(picture, x, part)); break;
            case 9: to = any(0, 9); what = any(0, 2); same(run, "changed", desk.changed(picture, to, what), plain.changed(picture, to, what)); break;
            case 10: what = any(33, 126); same(run, "say", desk.say(what), plain.say(what)); break;
            case 11: same(run, "wipe", desk.wipe(), plain.wipe()); break;
            case 12: same(run, "fault", desk.fault(), plain.fault()); break;
            case 13: what = any(0, 4); same(run, "use", desk.use(what), plain.use(what)); break;
            case 14: what = any(0, 8); same(run, "fact", desk.fact(thing, day, what), plain.fact(thing, day, what)); break;
            default: return another(run, call, thing, day);
        }
        return 1;
    }

    private int another(int run, int call, int thing, int day) {
        int use = any(0, 4), part = any(0, 1), n = any(1, 20), m = any(1, 20);
        int a = any(0, 20), b = any(0, 20), set = any(0, 255), purse = any(0, lot.nextBoolean() ? 800 : 150);
        switch (call) {
            case 15: same(run, "fit", desk.fit(use, thing, day), plain.fit(use, thing, day)); break;
            case 16: same(run, "could", desk.could(use, thing), plain.could(use, thing)); break;
            case 17: a = any(0, 2); same(run, "all", desk.all(use, day, a), plain.all(use, day, a)); break;
            case 18: same(run, "meet", desk.meet(day, part), plain.meet(day, part)); break;
            case 19: same(run, "chance", desk.chance(day, part), plain.chance(day, part)); break;
            case 20: boolean is = lot.nextInt(3) > 0; same(run, "did", desk.did(thing, day, is), plain.did(thing, day, is)); break;
            case 21: b = day + a; n = any(1, 19); same(run, "decoy", desk.decoy(thing, day, b, n, part), plain.decoy(thing, day, b, n, part)); break;
            case 22: n = any(1, 19); a = any(0, 100); same(run, "sure", desk.sure(n, a), plain.sure(n, a)); break;
            case 23: flightOne(run, any(0, 7)); break;
            case 24: same(run, "worth", desk.worth(set, part), plain.worth(set, part)); break;
            case 25: same(run, "best", desk.best(purse, part), plain.best(purse, part)); break;
            case 26: same(run, "lean", desk.lean(a, n, b, m, part), plain.lean(a, n, b, m, part)); break;
            default: a = any(0, 3); same(run, "told", desk.told(a), plain.told(a)); break;
        }
        return 1;
    }

    /** Every number of the call is the odd one, or at random an ordinary one. */
    private void one(int run, int call, int odd) {
        int a = lot.nextBoolean() ? odd : 1, b = lot.nextBoolean() ? odd : 1, c = lot.nextBoolean() ? odd : 1;
        int d = lot.nextBoolean() ? odd : 1, e = lot.nextBoolean() ? odd : 1;
        switch (call % 8) {
            case 0: thing(run, a, b, c, d, e, a, b, c); break;
            case 1: pictureOne(run, a, b, c, d, e); break;
            case 2: same(run, "set", desk.set(a, b, c), plain.set(a, b, c)); break;
            case 3: same(run, "decoy", desk.decoy(a, b, c, d, e), plain.decoy(a, b, c, d, e)); break;
            case 4: same(run, "flight", desk.flight(a, b, c, d, e), plain.flight(a, b, c, d, e)); break;
            case 5: same(run, "lean", desk.lean(a, b, c, d, e), plain.lean(a, b, c, d, e)); break;
            case 6: same(run, "fact", desk.fact(a, b, c), plain.fact(a, b, c)); break;
            default: one(run, lot.nextInt(28)); break;
        }
    }

    private void thing(int run, int x, int y, int wide, int length, int height, int kind, int since, int till) {
        same(run, "thing", desk.thing(x, y, wide, length, height, kind, since, till),
            plain.thing(x, y, wide, length, height, kind, since, till));
    }

    private void setOne(int run, int thing, int what) {
        int v = any(0, what == 8 ? 8 : 1);
        same(run, "set", desk.set(thing, what, v), plain.set(thing, what, v));
    }

    private void pictureOne(int run, int from, int to, int day, int sun, int slope) {
        same(run, "picture", desk.picture(from, to, day, sun, slope), plain.picture(from, to, day, sun, slope));
    }

    private void flightOne(int run, int flight) {
        int x = any(0, 11), to = any(0, 11), weather = any(0, 10), risk = any(0, lot.nextBoolean() ? 5 : 100);
        int from = Math.min(x, to);
        to = Math.max(x, to);
        same(run, "flight", desk.flight(flight, from, to, weather, risk), plain.flight(flight, from, to, weather, risk));
    }

    private static void same(int run, String call, long got, long want) {
        if (got != want) Due.is("run " + run + ": " + call, got, want);
    }
}
