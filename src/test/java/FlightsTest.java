/** Promises 25 to 28: flights and readers. */
final class FlightsTest {
    private static final Due DUE = new Due();
    private static final long LOST = PictureDesk.LOST;

    public static void main(String[] args) {
        flight();
        worth();
        best();
        lean();
        DUE.end();
    }

    private static void flight() {
        PictureDesk desk = new PictureDesk();
        DUE.is("flight(0, 0, 11, 10, 100)", desk.flight(0, 0, 11, 10, 100), 1);
        DUE.is("flight(0, 0, 11, 0, 0), again", desk.flight(0, 0, 11, 0, 0), 1);
        DUE.is("flight(7, 11, 11, 10, 100)", desk.flight(7, 11, 11, 10, 100), 1);
        DUE.is("flight(8, 5, 4, 0, 0)", desk.flight(8, 5, 4, 0, 0), -1);
        DUE.is("flight(-1, 0, 0, 0, 0)", desk.flight(-1, 0, 0, 0, 0), -1);
        DUE.is("from above to", desk.flight(0, 5, 4, 0, 0), -2);
        DUE.is("from -1", desk.flight(0, -1, 4, 0, 0), -2);
        DUE.is("to 12", desk.flight(0, 0, 12, 0, 0), -2);
        DUE.is("weather 11", desk.flight(0, 0, 0, 11, 0), -2);
        DUE.is("weather -1", desk.flight(0, 0, 0, -1, 0), -2);
        DUE.is("risk 101", desk.flight(0, 0, 0, 0, 101), -2);
        DUE.is("risk -1", desk.flight(0, 0, 0, 0, -1), -2);
    }

    private static void worth() {
        PictureDesk desk = new PictureDesk();
        desk.thing(0, 0, 4, 1, 1, 0, 0, 0);
        desk.set(0, 10, 1);
        for (int i = 0; i < 8; i++) desk.flight(i, 0, 0, 1, 0);
        DUE.is("eight flights, upper", desk.worth(255, 0), 100000000 - 43046721);
        DUE.is("eight flights, lower", desk.worth(255, 1), 100000000);
        DUE.is("two flights, upper", desk.worth(0x81, 0), 19);
        DUE.is("two flights, lower", desk.worth(0x81, 1), 100);
        desk.flight(0, 1, 11, 10, 0);
        DUE.is("beside its first cell", desk.worth(1, 0), 0);
        DUE.is("beside its first cell, lower", desk.worth(1, 1), 1);
        desk.flight(0, 0, 11, 10, 0);
        for (int i = 1; i < 12; i++) {
            desk.thing(i, 0, 1, 1, 1, 0, 0, 0);
            desk.set(i, 10, 1);
        }
        DUE.is("all twelve, upper", desk.worth(1, 0), 12);
        DUE.is("all twelve, lower", desk.worth(1, 1), 1);
        desk.set(3, 10, 0);
        DUE.is("eleven", desk.worth(255, 0), 11);
        desk.flight(0, 2, 4, 5, 0);
        DUE.is("the ends of a strip count, upper", desk.worth(1, 0), 1);
        DUE.is("no flights", desk.worth(0, 0), 0);
        DUE.is("set 256", desk.worth(256, 0), LOST - 2);
        DUE.is("set -1", desk.worth(-1, 0), LOST - 2);
        DUE.is("part 2", desk.worth(0, 2), LOST - 2);
        DUE.is("part -1", desk.worth(0, -1), LOST - 2);
    }

    private static void best() {
        PictureDesk desk = new PictureDesk();
        desk.thing(5, 0, 1, 1, 1, 0, 0, 0);
        DUE.is("nothing wanted", desk.best(800, 0), 0);
        PictureDesk other = new PictureDesk();
        other.thing(5, 0, 1, 1, 1, 0, 0, 0);
        other.set(0, 10, 1);
        other.flight(0, 5, 5, 1, 1);
        DUE.is("the first flight alone", other.best(1, 0), 1);
        desk.set(0, 10, 1);
        desk.flight(0, 5, 5, 5, 100);
        desk.flight(1, 5, 5, 5, 60);
        desk.flight(2, 5, 5, 5, 60);
        desk.flight(3, 0, 4, 10, 0);
        DUE.is("a purse of 59", desk.best(59, 0), 0);
        DUE.is("of several the least as bits", desk.best(60, 0), 2);
        DUE.is("of several the least risk", desk.best(100, 0), 2);
        DUE.is("its risk", desk.best(100, 1), 60);
        DUE.is("two", desk.best(120, 0), 6);
        DUE.is("two, risk", desk.best(219, 1), 120);
        DUE.is("three", desk.best(220, 0), 7);
        desk.flight(7, 5, 5, 10, 100);
        DUE.is("one that comes off for sure", desk.best(800, 0), 128);
        desk.flight(6, 5, 5, 10, 0);
        DUE.is("for nothing", desk.best(0, 0), 64);
        DUE.is("purse 801", desk.best(801, 0), -2);
        DUE.is("purse -1", desk.best(-1, 0), -2);
        DUE.is("what 2", desk.best(0, 2), -2);
        DUE.is("what -1", desk.best(0, -1), -2);
    }

    private static void lean() {
        PictureDesk desk = new PictureDesk();
        DUE.is("one of one, none of one, upper", desk.lean(1, 1, 0, 1, 0), 1);
        DUE.is("one of one, none of one, lower", desk.lean(1, 1, 0, 1, 1), 2);
        DUE.is("all of all", desk.lean(20, 20, 20, 20, 1), 1);
        DUE.is("none", desk.lean(0, 5, 3, 5, 1), 1);
        DUE.is("2 of 3, 1 of 2, upper", desk.lean(2, 3, 1, 2, 0), 7);
        DUE.is("2 of 3, 1 of 2, lower", desk.lean(2, 3, 1, 2, 1), 10);
        DUE.is("a -1", desk.lean(-1, 3, 1, 2, 1), LOST - 2);
        DUE.is("a above n", desk.lean(4, 3, 1, 2, 1), LOST - 2);
        DUE.is("b -1", desk.lean(1, 3, -1, 2, 1), LOST - 2);
        DUE.is("b above m", desk.lean(1, 3, 3, 2, 1), LOST - 2);
        DUE.is("n 0", desk.lean(0, 0, 1, 2, 1), LOST - 2);
        DUE.is("n 21", desk.lean(1, 21, 1, 2, 1), LOST - 2);
        DUE.is("m 0", desk.lean(1, 3, 0, 0, 1), LOST - 2);
        DUE.is("m 21", desk.lean(1, 3, 1, 21, 1), LOST - 2);
        DUE.is("part 2", desk.lean(1, 3, 1, 2, 2), LOST - 2);
        DUE.is("part -1", desk.lean(1, 3, 1, 2, -1), LOST - 2);
    }
}
