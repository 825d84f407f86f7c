/** Promises 1 to 9: a new object, things and what is told and counted of them. */
public final class ThingsTest {
    private static final int UNKNOWN = MeetingsAbove.UNKNOWN, OUTSIDE = MeetingsAbove.OUTSIDE;
    private static final int NOT = MeetingsAbove.NOT, FULL = MeetingsAbove.FULL;

    public static void main(String[] args) {
        newObject();
        thing();
        thingsAreSixteen();
        place();
        placesAreTwelve();
        placeRefusals();
        gone();
        breaks();
        breaksIntoSix();
        breaksRefusals();
        breaksAtTheEdge();
        rule();
        told();
        at();
        count();
        Due.end();
    }

    private static void newObject() {
        MeetingsAbove m = new MeetingsAbove();
        for (int what = 0; what <= 9; what++) {
            Due.is("new: count(" + what + ")", m.count(what), 0);
        }
        Due.is("new: differs(0)", m.differs(0), NOT);
        Due.is("new: differs(1)", m.differs(1), NOT);
        Due.is("new: NEAR", m.rule(0, 50), 50);
        Due.is("new: WIDE", m.rule(1, 20), 20);
        Due.is("new: meeting(0, 0)", m.meeting(0, 0), MeetingsAbove.NONE);
        Due.is("new: told(0, 0)", m.told(0, 0), UNKNOWN);
        Due.is("new: dotted(0, 0)", m.dotted(0, 0), UNKNOWN);
        Due.is("new: noticed(0, 0)", m.noticed(0, 0), UNKNOWN);
        MeetingsAbove other = new MeetingsAbove();
        m.thing(0, 0, 0, 0, 0);
        m.rule(0, 7);
        Due.is("objects are apart: things", other.count(0), 0);
        Due.is("objects are apart: NEAR", other.rule(0, 50), 50);
    }

    private static void thing() {
        MeetingsAbove m = new MeetingsAbove();
        Due.is("thing", m.thing(0, 1, 2, 3, 4), 0);
        Due.is("thing at its bounds", m.thing(39, 5000, -5000, 5000, 200), 1);
        Due.is("thing at its other bounds", m.thing(0, -5000, 5000, -5000, 0), 2);
        int[][] outside = {
            {-1, 0, 0, 0, 0}, {40, 0, 0, 0, 0}, {0, 5001, 0, 0, 0}, {0, -5001, 0, 0, 0}, {0, 0, 5001, 0, 0},
            {0, 0, -5001, 0, 0}, {0, 0, 0, 5001, 0}, {0, 0, 0, -5001, 0}, {0, 0, 0, 0, 201}, {0, 0, 0, 0, -1},
            {Integer.MIN_VALUE, 0, 0, 0, 0}, {0, Integer.MAX_VALUE, 0, 0, 0}, {0, 0, 0, 0, Integer.MAX_VALUE}};
        for (int[] w : outside) {
            Due.is("thing outside", m.thing(w[0], w[1], w[2], w[3], w[4]), OUTSIDE);
        }
        Due.is("refused things are not there", m.count(0), 3);
        Due.is("its place", m.at(0, 0, 2), 3);
        Due.is("its doubt", m.told(0, 2), 4);
    }

    private static void thingsAreSixteen() {
        MeetingsAbove m = new MeetingsAbove();
        for (int t = 0; t < 16; t++) {
            Due.is("thing " + t, m.thing(0, 0, 0, 0, 0), t);
        }
        Due.is("gone ones take room too", m.gone(3), 1);
        Due.is("the 17th", m.thing(0, 0, 0, 0, 0), FULL);
        Due.is("OUTSIDE goes ahead of FULL", m.thing(0, 0, 0, 0, 201), OUTSIDE);
        Due.is("sixteen stay", m.count(0), 16);
    }

    private static void place() {
        MeetingsAbove m = new MeetingsAbove();
        m.thing(7, 0, 0, 0, 0);
        Due.is("place", m.place(0, 1, 2, 3), 2);
        Due.is("place at its bounds", m.place(0, -5000, 5000, -5000), 3);
        Due.is("the next step's", m.at(0, 8, 1), 2);
        Due.is("the one after", m.at(0, 9, 0), -5000);
        Due.is("the first stays", m.at(0, 7, 2), 0);
    }

    private static void placesAreTwelve() {
        MeetingsAbove m = new MeetingsAbove();
        m.thing(0, 0, 0, 0, 0);
        for (int n = 2; n <= 12; n++) {
            Due.is("place " + n, m.place(0, n, 0, 0), n);
        }
        Due.is("the 13th", m.place(0, 0, 0, 0), FULL);
        Due.is("OUTSIDE goes ahead of FULL", m.place(0, 0, 0, 5001), OUTSIDE);
        Due.is("twelve stay", m.told(0, 1), 12);
        m.gone(0);
        Due.is("NOT goes ahead of FULL", m.place(0, 0, 0, 0), NOT);
        m.thing(28, 0, 0, 0, 0);
        for (int n = 2; n <= 12; n++) {
            Due.is("up to step 39: " + n, m.place(1, n, 0, 0), n);
        }
        Due.is("at step 39 NOT goes ahead of FULL", m.place(1, 0, 0, 0), NOT);
    }

    private static void placeRefusals() {
        MeetingsAbove m = new MeetingsAbove();
        m.thing(38, 0, 0, 0, 0);
        Due.is("no such thing", m.place(1, 5001, 0, 0), UNKNOWN);
        Due.is("no such thing", m.place(-1, 0, 0, 0), UNKNOWN);
        Due.is("no such thing", m.place(Integer.MIN_VALUE, 0, 0, 0), UNKNOWN);
        int[][] outside = {{5001, 0, 0}, {-5001, 0, 0}, {0, 5001, 0}, {0, -5001, 0}, {0, 0, 5001}, {0, 0, -5001}};
        for (int[] w : outside) {
            Due.is("place outside", m.place(0, w[0], w[1], w[2]), OUTSIDE);
        }
        Due.is("at step 39", m.place(0, 0, 0, 0), 2);
        Due.is("behind step 39", m.place(0, 0, 0, 0), NOT);
        Due.is("OUTSIDE goes ahead of NOT", m.place(0, 5001, 0, 0), OUTSIDE);
        Due.is("nothing changed", m.told(0, 1), 2);
    }

    private static void gone() {
        MeetingsAbove m = new MeetingsAbove();
        m.thing(0, 5, 0, 0, 0);
        m.thing(0, 6, 0, 0, 0);
        Due.is("both meet", m.count(2), 1);
        Due.is("gone", m.gone(0), 1);
        Due.is("gone twice", m.gone(0), NOT);
        Due.is("no such thing", m.gone(2), UNKNOWN);
        Due.is("no such thing", m.gone(-1), UNKNOWN);
        Due.is("it has its place", m.at(0, 0, 0), 5);
        Due.is("it meets none", m.count(2), 0);
        Due.is("nor the other one", m.told(1, 4), 0);
    }

    private static void breaks() {
        MeetingsAbove m = new MeetingsAbove();
        m.thing(3, 10, 20, 30, 9);
        m.place(0, 11, 21, 31);
        m.place(0, 12, 22, 32);
        m.place(0, 13, 23, 33);
        Due.is("breaks", m.breaks(0, 4, 2), 1);
        Due.is("it is gone", m.told(0, 3), 1);
        Due.is("it has its places", m.told(0, 1), 4);
        for (int part = 1; part <= 2; part++) {
            Due.is("first step", m.told(part, 0), 4);
            Due.is("places", m.told(part, 1), 3);
            Due.is("doubt", m.told(part, 2), 9);
            Due.is("there", m.told(part, 3), 0);
            int i = part - 1;
            for (int j = 0; j <= 2; j++) {
                Due.is("x", m.at(part, 4 + j, 0), 11 + j + j * (i - 1));
                Due.is("y", m.at(part, 4 + j, 1), 21 + j + j * (i == 1 ? 1 : -1));
                Due.is("z", m.at(part, 4 + j, 2), 31 + j);
            }
        }
        Due.is("a part goes on", m.place(1, 0, 0, 0), 4);
        Due.is("a part breaks at its last place", m.breaks(2, 6, 2), 3);
        Due.is("with one place", m.told(4, 1), 1);
    }

    private static void breaksIntoSix() {
        MeetingsAbove m = new MeetingsAbove();
        m.thing(0, 0, 0, 0, 0);
        m.place(0, 100, 200, 300);
        Due.is("into six", m.breaks(0, 0, 6), 1);
        int[] x = {97, 98, 99, 100, 101, 102};
        int[] y = {199, 201, 199, 201, 199, 201};
        for (int i = 0; i < 6; i++) {
            Due.is("x of part " + i, m.at(1 + i, 1, 0), x[i]);
            Due.is("y of part " + i, m.at(1 + i, 1, 1), y[i]);
            Due.is("z of part " + i, m.at(1 + i, 1, 2), 300);
        }
    }

    private static void breaksRefusals() {
        MeetingsAbove m = new MeetingsAbove();
        m.thing(5, 0, 0, 0, 0);
        m.place(0, 0, 0, 0);
        Due.is("no such thing", m.breaks(1, 5, 1), UNKNOWN);
        Due.is("into one", m.breaks(0, 5, 1), OUTSIDE);
        Due.is("into seven", m.breaks(0, 5, 7), OUTSIDE);
        Due.is("before its places", m.breaks(0, 4, 2), OUTSIDE);
        Due.is("behind its places", m.breaks(0, 7, 2), OUTSIDE);
        Due.is("far out", m.breaks(0, Integer.MIN_VALUE, 2), OUTSIDE);
        Due.is("far out", m.breaks(0, Integer.MAX_VALUE, Integer.MAX_VALUE), OUTSIDE);
        for (int t = 1; t < 14; t++) {
            m.thing(0, 0, 0, 0, 0);
        }
        Due.is("no room for three", m.breaks(0, 5, 3), FULL);
        Due.is("it is not gone", m.told(0, 3), 0);
        Due.is("no part came", m.count(0), 14);
        Due.is("room for two", m.breaks(0, 5, 2), 14);
        Due.is("NOT goes ahead of FULL", m.breaks(0, 5, 2), NOT);
        Due.is("OUTSIDE goes ahead of NOT", m.breaks(0, 4, 2), OUTSIDE);
    }

    private static void breaksAtTheEdge() {
        MeetingsAbove m = new MeetingsAbove();
        m.thing(0, 5000, 5000, 5000, 0);
        m.place(0, -5000, 0, 0);
        Due.is("x too low", m.breaks(0, 0, 2), NOT);
        Due.is("it is not gone", m.told(0, 3), 0);
        Due.is("nothing came", m.count(0), 1);
        Due.is("at its last place nothing moves", m.breaks(0, 1, 6), 1);
        m.thing(0, 0, 0, 0, 0);
        m.place(7, 5000, 0, 0);
        Due.is("two parts stay inside", m.breaks(7, 0, 2), 8);
        m.thing(0, 0, 0, 0, 0);
        m.place(10, 5000, 0, 0);
        Due.is("of three the last would be out", m.breaks(10, 0, 3), NOT);
        m.place(10, 0, 4999, 0);
        Due.is("of y the second step counts", m.breaks(10, 1, 2), 11);
        m.thing(0, 0, 0, 0, 0);
        m.place(13, 0, 5000, 0);
        Due.is("y too high", m.breaks(13, 0, 2), NOT);
        m = new MeetingsAbove();
        m.thing(0, 0, 0, 0, 0);
        m.place(0, 0, 0, 5000);
        m.place(0, 0, 0, -5000);
        Due.is("z stays as it is", m.breaks(0, 0, 2), 1);
    }

    private static void rule() {
        MeetingsAbove m = new MeetingsAbove();
        Due.is("NEAR was", m.rule(0, 3000), 50);
        Due.is("NEAR was", m.rule(0, 1), 3000);
        Due.is("WIDE was", m.rule(1, 400), 20);
        Due.is("WIDE was", m.rule(1, 0), 400);
        int[][] outside = {{0, 0}, {0, 3001}, {1, -1}, {1, 401}, {2, 1}, {-1, 1}, {0, Integer.MIN_VALUE}};
        for (int[] w : outside) {
            Due.is("rule outside", m.rule(w[0], w[1]), OUTSIDE);
        }
        Due.is("NEAR stays", m.rule(0, 50), 1);
        Due.is("WIDE stays", m.rule(1, 20), 0);
    }

    private static void told() {
        MeetingsAbove m = new MeetingsAbove();
        m.thing(4, 0, 0, 0, 17);
        m.place(0, 0, 0, 0);
        m.thing(4, 49, 0, 0, 0);
        m.thing(5, 0, 49, 0, 0);
        int[] want = {4, 2, 17, 0, 2};
        for (int what = 0; what <= 4; what++) {
            Due.is("told(0, " + what + ")", m.told(0, what), want[what]);
        }
        m.gone(0);
        Due.is("it is gone", m.told(0, 3), 1);
        Due.is("what is gone meets none", m.told(0, 4), 0);
        m.thing(0, 0, 0, 0, 0);
        m.thing(0, 0, 0, 49, 0);
        Due.is("at step 0", m.told(3, 4), 1);
        m.thing(39, 0, 0, 0, 0);
        m.thing(39, 0, 49, 0, 0);
        Due.is("at step 39", m.told(5, 4), 1);
        Due.is("no such thing", m.told(7, 9), UNKNOWN);
        Due.is("what", m.told(0, 5), OUTSIDE);
        Due.is("what", m.told(0, -1), OUTSIDE);
    }

    private static void at() {
        MeetingsAbove m = new MeetingsAbove();
        m.thing(4, 1, 2, 3, 0);
        Due.is("x", m.at(0, 4, 0), 1);
        Due.is("y", m.at(0, 4, 1), 2);
        Due.is("z", m.at(0, 4, 2), 3);
        Due.is("no place ahead", m.at(0, 3, 0), NOT);
        Due.is("no place behind", m.at(0, 5, 0), NOT);
        Due.is("no place at 39", m.at(0, 39, 2), NOT);
        Due.is("no such step", m.at(0, 40, 0), OUTSIDE);
        Due.is("no such step", m.at(0, -1, 0), OUTSIDE);
        Due.is("OUTSIDE goes ahead of NOT", m.at(0, 5, 3), OUTSIDE);
        Due.is("what", m.at(0, 4, -1), OUTSIDE);
        Due.is("UNKNOWN goes ahead of OUTSIDE", m.at(1, 40, 3), UNKNOWN);
        m.gone(0);
        Due.is("gone, but its place stays", m.at(0, 4, 2), 3);
    }

    private static void count() {
        MeetingsAbove m = new MeetingsAbove();
        m.thing(0, 0, 0, 0, 5);
        m.thing(0, 3, 0, 0, 5);
        m.thing(0, 6, 0, 0, 5);
        m.thing(0, 0, 0, 0, 5);
        m.gone(3);
        m.dot(0, 0, 0, 0);
        m.dot(0, -5, 0, 0);
        m.dot(0, 0, 6, 0);
        m.dot(1, 0, 0, 0);
        m.notice(0, 1);
        m.notice(0, 2);
        m.notice(1, 0);
        m.answer(0, 1, 2);
        int[] want = {4, 3, 3, 4, 1, 1, 2, 3, 2, 1};
        for (int what = 0; what <= 9; what++) {
            Due.is("count(" + what + ")", m.count(what), want[what]);
        }
        Due.is("what", m.count(10), OUTSIDE);
        Due.is("what", m.count(-1), OUTSIDE);
    }
}
