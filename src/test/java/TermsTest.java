import java.util.ArrayList;
import java.util.List;

/** What the document says ahead of its promises: refusals, fractions, and how long an object is used. */
final class TermsTest {
    private static final int UNKNOWN = -1, OUTSIDE = -2, FULL = -4, NO = -5;
    private static final long LOST = PictureDesk.LOST;

    public static void main(String[] args) {
        Due.run(TermsTest.class);
    }

    /** Things, pictures, uses, doings and flights; if full, as many things, pictures and signs as there may be. */
    private static PictureDesk desk(boolean isFull) {
        PictureDesk desk = new PictureDesk();
        for (int i = 0; i < (isFull ? 12 : 4); i++) desk.thing(i % 4 * 3, i % 3 * 2, 1 + i % 3, 2, 3 + i, i % 6, i, 90 + i % 4);
        for (int i = 0; i < 4; i++) {
            desk.set(i, 8, 2 * i);
            desk.set(i, 10, 1);
            desk.did(i, 10 + i, true);
            desk.flight(i, i, 3 + 2 * i, 9 - 2 * i, 40 + 7 * i);
        }
        desk.set(1, 9, 1);
        for (int i = 0; i < (isFull ? 10 : 2); i++) desk.picture(0, 11 - i, 20 + 7 * i, i % 4, i + 5);
        desk.cloud(0, 20, true);
        desk.cloud(1, 95, true);
        Due.use(desk, 0, "s>1&n1<9");
        Due.use(desk, 4, "h>4|k=1");
        Due.say(desk, isFull ? "s>12|s>12|s>12|s>12|s>12|s>12|s>12|s>12|" : "s>1&");
        return desk;
    }

    /** What can be asked of a desk, in fewer calls than its 512 leave; the signs are tried out and go. */
    private static List<Long> all(PictureDesk desk) {
        List<Long> answers = new ArrayList<>();
        for (int what = 0; what < 4; what++) answers.add((long) desk.told(what));
        for (int i = 0; i < 12; i++) for (int what = 7; what <= 10; what++) answers.add((long) desk.of(i, what));
        for (int cell = 0; cell < 96; cell++) answers.add((long) desk.shows(0, cell));
        for (int i = 0; i < 10; i++) for (int what = 0; what < 4; what++) answers.add((long) desk.count(i, what));
        for (int what = 0; what < 9; what++) answers.add((long) desk.fact(0, 99, what));
        for (int how = 0; how < 3; how++) answers.add((long) desk.all(0, 50, how));
        for (int how = 0; how < 3; how++) answers.add((long) desk.all(4, 50, how));
        for (int day = 0; day < 99; day += 9) answers.add(desk.decoy(0, day, day + 8, 7, 0));
        for (int day = 5; day < 99; day += 30) answers.add(desk.chance(day, 1));
        for (int flight = 0; flight < 8; flight++) answers.add(desk.worth(1 << flight, 0));
        for (int purse = 0; purse <= 240; purse += 30) answers.add((long) desk.best(purse, 0));
        answers.add((long) desk.best(800, 1));
        answers.add((long) desk.fault());
        desk.say('k');
        answers.add((long) desk.fault());
        answers.add((long) desk.wipe());
        return answers;
    }

    @Says("They change nothing.")
    static void terms_UNKNOWN_changesNothing() {
        for (boolean isFull : new boolean[] {false, true}) {
            PictureDesk desk = desk(isFull);
            for (int bad : new int[] {-1, 12, Integer.MIN_VALUE, Integer.MAX_VALUE}) {
                Due.is("of", desk.of(bad, 0), UNKNOWN);
                Due.is("set", desk.set(bad, 8, 5), UNKNOWN);
                Due.is("cloud", desk.cloud(bad, 0, true), UNKNOWN);
                Due.is("changed", desk.changed(0, bad, 0), UNKNOWN);
                Due.is("use", desk.use(bad), UNKNOWN);
                Due.is("fit", desk.fit(bad, 0, 0), UNKNOWN);
                Due.is("could", desk.could(0, bad), UNKNOWN);
                Due.is("did", desk.did(bad, 0, true), UNKNOWN);
                Due.is("decoy", desk.decoy(bad, 0, 0, 5, 0), LOST + UNKNOWN);
                Due.is("flight", desk.flight(bad, 0, 11, 10, 0), UNKNOWN);
            }
            Due.holds("all is as it was", all(desk).equals(all(desk(isFull))));
        }
    }

    @Says("They change nothing.")
    static void terms_OUTSIDE_changesNothing() {
        for (boolean isFull : new boolean[] {false, true}) {
            PictureDesk desk = desk(isFull);
            for (int bad : new int[] {-1, 101, Integer.MIN_VALUE, Integer.MAX_VALUE}) {
                Due.is("thing", desk.thing(0, 0, 1, 1, 20, 5, 0, bad), OUTSIDE);
                Due.is("set", desk.set(0, 9, bad), OUTSIDE);
                Due.is("picture", desk.picture(0, 11, 0, bad, 0), OUTSIDE);
                Due.is("cloud", desk.cloud(0, bad, true), OUTSIDE);
                Due.is("say", desk.say(bad == 101 ? 127 : bad), OUTSIDE);
                Due.is("did", desk.did(0, bad, true), OUTSIDE);
                Due.is("flight, columns", desk.flight(0, 0, bad, 1, 1), OUTSIDE);
                Due.is("flight, weather", desk.flight(0, 0, 1, bad, 1), OUTSIDE);
                Due.is("flight, risk", desk.flight(0, 0, 1, 1, bad), OUTSIDE);
                Due.is("chance", desk.chance(bad, 0), LOST + OUTSIDE);
                Due.is("worth", desk.worth(0, bad), LOST + OUTSIDE);
            }
            Due.holds("all is as it was", all(desk).equals(all(desk(isFull))));
        }
    }

    @Says("They change nothing.")
    static void terms_FULL_changesNothing() {
        PictureDesk desk = desk(true);
        Due.is("thing", desk.thing(0, 0, 4, 4, 20, 5, 0, 99), FULL);
        Due.is("picture", desk.picture(0, 11, 0, 0, 20), FULL);
        Due.is("say", desk.say('n'), FULL);
        Due.holds("all is as it was", all(desk).equals(all(desk(true))));
    }

    @Says("They change nothing.")
    static void terms_NO_changesNothing() {
        for (boolean isFull : new boolean[] {false, true}) {
            PictureDesk desk = desk(isFull);
            for (int use = 0; use < 5; use++) Due.is("use(" + use + ")", desk.use(use), NO);
            Due.holds("all is as it was", all(desk).equals(all(desk(isFull))));
        }
    }

    @Says("They change nothing.")
    static void terms_questionsChangeNothing() {
        PictureDesk desk = desk(true);
        desk.at(0, 0);
        desk.shows(0, 0);
        desk.count(0, 0);
        desk.span(0, 0, 0);
        desk.changed(0, 1, 0);
        desk.fault();
        desk.fact(11, 99, 8);
        desk.fit(4, 11, 99);
        desk.could(0, 11);
        desk.all(0, 99, 0);
        desk.meet(99, 1);
        desk.chance(0, 0);
        desk.decoy(11, 0, 11, 19, 1);
        desk.sure(1, 1);
        desk.worth(255, 1);
        desk.best(800, 0);
        desk.lean(1, 2, 1, 2, 0);
        desk.told(0);
        Due.holds("all is as it was", all(desk).equals(all(desk(true))));
    }

    @Says("refused with LOST and the refusal")
    static void terms_LOST_andTheRefusal() {
        PictureDesk desk = new PictureDesk();
        Due.is("chance, OUTSIDE", desk.chance(0, 2), -1000000000000000002L);
        Due.is("chance, STATE", desk.chance(0, 0), -1000000000000000003L);
        Due.is("decoy, UNKNOWN", desk.decoy(0, 0, 0, 5, 0), -1000000000000000001L);
        desk.thing(0, 0, 1, 1, 1, 0, 0, 0);
        Due.is("decoy, OUTSIDE", desk.decoy(0, 0, 0, 0, 0), -1000000000000000002L);
        Due.is("worth, OUTSIDE", desk.worth(256, 0), -1000000000000000002L);
        Due.is("lean, OUTSIDE", desk.lean(1, 0, 0, 1, 0), -1000000000000000002L);
    }

    @Says("An object is used for at most 512 calls after it has been made")
    static void terms_512Calls() {
        PictureDesk desk = new PictureDesk();
        for (int call = 1; call <= 512; call++) {
            if (call == 511) Due.is("thing, call 511", desk.thing(0, 0, 1, 1, 1, 0, 0, 0), 0);
            else if (call == 512) Due.is("told, call 512", desk.told(0), 1);
            else if (call % 41 == 0) Due.is("wipe, call " + call, desk.wipe(), 40);
            else Due.is("say, call " + call, desk.say('s'), call % 41);
        }
    }
}
