/** Promises 16 to 20: dots, notices and their answers. */
public final class DotsAndNoticesTest {
    private static final int UNKNOWN = MeetingsAbove.UNKNOWN, OUTSIDE = MeetingsAbove.OUTSIDE;
    private static final int NOT = MeetingsAbove.NOT, FULL = MeetingsAbove.FULL, NONE = MeetingsAbove.NONE;

    public static void main(String[] args) {
        dot();
        dotted();
        dottedFollowsTheThings();
        notice();
        noticeKeepsWhatWas();
        noticesAreForty();
        noticeRefusals();
        answer();
        answerIsLate();
        answerRefusals();
        noticed();
        Due.end();
    }

    private static void dot() {
        MeetingsAbove m = new MeetingsAbove();
        int[][] outside = {
            {-1, 0, 0, 0}, {40, 0, 0, 0}, {0, 5001, 0, 0}, {0, -5001, 0, 0}, {0, 0, 5001, 0}, {0, 0, -5001, 0},
            {0, 0, 0, 5001}, {0, 0, 0, -5001}};
        for (int d = 0; d < 40; d++) {
            for (int[] w : outside) {
                Due.is("dot outside", m.dot(w[0], w[1], w[2], w[3]), OUTSIDE);
            }
            Due.is("dot " + d, m.dot(d, 5000, -5000, 5000), d);
        }
        Due.is("the 41st", m.dot(0, 0, 0, 0), FULL);
        Due.is("OUTSIDE goes ahead of FULL", m.dot(40, 0, 0, 0), OUTSIDE);
        Due.is("forty stay", m.count(3), 40);
    }

    private static void dotted() {
        MeetingsAbove m = new MeetingsAbove();
        m.thing(4, 100, 200, 300, 0);
        m.thing(4, 100, 200, 300, 3);
        m.thing(4, 104, 200, 300, 3);
        m.thing(3, 100, 200, 300, 200);
        int[][] dots = {
            {100, 200, 300, 2, 0}, {103, 197, 303, 2, 1}, {104, 200, 300, 1, 2}, {97, 203, 297, 1, 1},
            {96, 200, 300, 0, NONE}, {100, 204, 300, 0, NONE}, {100, 196, 300, 0, NONE}, {100, 200, 304, 0, NONE},
            {100, 200, 296, 0, NONE}, {108, 200, 300, 0, NONE}};
        for (int[] w : dots) {
            int d = m.dot(4, w[0], w[1], w[2]);
            Due.is("of how many is dot " + d, m.dotted(d, 0), w[3]);
            Due.is("the least for dot " + d, m.dotted(d, 1), w[4]);
        }
        Due.is("JOINED", m.count(4), 2);
        Due.is("OPEN", m.count(5), 2);
        Due.is("KEPT", m.count(6), 6);
        Due.is("no such dot", m.dotted(10, 2), UNKNOWN);
        Due.is("no such dot", m.dotted(-1, 0), UNKNOWN);
        Due.is("what", m.dotted(0, 2), OUTSIDE);
        Due.is("what", m.dotted(0, -1), OUTSIDE);
    }

    private static void dottedFollowsTheThings() {
        MeetingsAbove m = new MeetingsAbove();
        m.dot(1, 0, 0, 0);
        Due.is("of none yet", m.dotted(0, 0), 0);
        m.thing(0, 0, 0, 0, 1);
        Due.is("another step", m.dotted(0, 0), 0);
        m.place(0, 0, 0, 0);
        Due.is("of the thing that came", m.dotted(0, 1), 0);
        m.burn(0, 0, 2, 0, 0);
        Due.is("it went off", m.dotted(0, 0), 0);
        m.burn(0, 0, -2, 0, 0);
        Due.is("it came back", m.count(4), 1);
        m.breaks(0, 0, 2);
        Due.is("of both parts, not the whole", m.dotted(0, 0), 2);
        Due.is("the least part", m.dotted(0, 1), 1);
        m.gone(1);
        Due.is("of one part", m.dotted(0, 1), 2);
        m.gone(2);
        Due.is("of none", m.count(6), 1);
    }

    private static void notice() {
        MeetingsAbove m = new MeetingsAbove();
        m.thing(0, 0, 0, 0, 0);
        m.thing(0, 10, 0, 0, 0);
        m.thing(0, 20, 0, 0, 0);
        Due.is("notice", m.notice(1, 0), 0);
        Due.is("the first one holds", m.count(8), 1);
        Due.is("of two others", m.notice(1, 2), 1);
        Due.is("of two others", m.notice(2, 0), 2);
        Due.is("of the same two", m.notice(0, 1), 3);
        Due.is("of the same two", m.notice(1, 0), 4);
        int[] ahead = {NONE, NONE, NONE, 0, 3};
        int[] holds = {0, 1, 1, 0, 1};
        for (int n = 0; n < 5; n++) {
            Due.is("ahead of " + n, m.noticed(n, 7), ahead[n]);
            Due.is("whether it holds: " + n, m.noticed(n, 4), holds[n]);
        }
        Due.is("how many hold", m.count(8), 3);
    }

    private static void noticeKeepsWhatWas() {
        MeetingsAbove m = new MeetingsAbove();
        m.thing(6, 0, 0, 0, 0);
        m.place(0, 3, 0, 0);
        m.thing(6, 1, 2, 0, 0);
        m.place(1, 1, 1, 0);
        Due.is("notice", m.notice(0, 1), 0);
        Due.is("5 / 2 is cut", m.noticed(0, 2), 2);
        Due.is("the step", m.noticed(0, 3), 6);
        m.place(0, 3, 0, 0);
        m.place(1, 3, 0, 0);
        Due.is("it stays", m.noticed(0, 2), 2);
        m.notice(0, 1);
        Due.is("the newer one has the newer least", m.noticed(1, 2), 0);
        Due.is("and its step", m.noticed(1, 3), 8);
        m.gone(0);
        Due.is("it holds all the same", m.noticed(1, 4), 1);
        Due.is("an answer of what is gone is taken", m.answer(1, 0, 1), 1);
    }

    private static void noticesAreForty() {
        MeetingsAbove m = new MeetingsAbove();
        m.thing(0, 0, 0, 0, 0);
        m.thing(0, 10, 0, 0, 0);
        for (int n = 0; n < 40; n++) {
            Due.is("notice " + n, m.notice(0, 1), n);
        }
        Due.is("the 41st", m.notice(0, 1), FULL);
        Due.is("it superseded none", m.noticed(39, 4), 1);
        Due.is("NOT goes ahead of FULL", m.notice(0, 0), NOT);
        Due.is("UNKNOWN goes ahead of FULL", m.notice(0, 2), UNKNOWN);
        Due.is("forty stay", m.count(7), 40);
        Due.is("one holds", m.count(8), 1);
    }

    private static void noticeRefusals() {
        MeetingsAbove m = new MeetingsAbove();
        m.thing(0, 0, 0, 0, 0);
        m.thing(0, 50, 0, 0, 0);
        m.thing(1, 0, 0, 0, 0);
        m.thing(0, 1, 0, 0, 0);
        Due.is("no such thing", m.notice(0, 4), UNKNOWN);
        Due.is("no such thing", m.notice(-1, -1), UNKNOWN);
        Due.is("one and the same", m.notice(0, 0), NOT);
        Due.is("not near", m.notice(0, 1), NOT);
        Due.is("not together", m.notice(0, 2), NOT);
        m.gone(3);
        Due.is("gone", m.notice(0, 3), NOT);
        Due.is("no notice came", m.count(7), 0);
    }

    private static void answer() {
        MeetingsAbove m = new MeetingsAbove();
        m.thing(0, 0, 0, 0, 0);
        m.thing(0, 10, 0, 0, 0);
        m.notice(1, 0);
        Due.is("none yet", m.noticed(0, 5), 0);
        Due.is("none yet", m.noticed(0, 6), 0);
        Due.is("of the greater one", m.answer(0, 1, 2), 1);
        Due.is("the lesser one has none", m.noticed(0, 5), 0);
        Due.is("no", m.noticed(0, 6), 2);
        Due.is("of the lesser one", m.answer(0, 0, 1), 1);
        Due.is("yes", m.noticed(0, 5), 1);
        Due.is("another answer", m.answer(0, 0, 2), 1);
        Due.is("is taken", m.noticed(0, 5), 2);
        Due.is("none is late", m.count(9), 0);
    }

    private static void answerIsLate() {
        MeetingsAbove m = new MeetingsAbove();
        m.thing(0, 0, 0, 0, 0);
        m.thing(0, 10, 0, 0, 0);
        m.thing(0, 900, 0, 0, 0);
        m.notice(0, 1);
        m.answer(0, 0, 1);
        m.notice(0, 1);
        Due.is("late", m.answer(0, 0, 2), 0);
        Due.is("late", m.answer(0, 1, 2), 0);
        Due.is("not taken", m.noticed(0, 5), 1);
        Due.is("not taken", m.noticed(0, 6), 0);
        Due.is("counted", m.count(9), 2);
        Due.is("refused, not late", m.answer(0, 0, 3), OUTSIDE);
        Due.is("refused, not late", m.answer(0, 2, 1), NOT);
        Due.is("refused, not late", m.answer(0, 3, 1), UNKNOWN);
        Due.is("not counted", m.count(9), 2);
        Due.is("the newer one has no answer yet", m.noticed(1, 5), 0);
        Due.is("it takes one", m.answer(1, 0, 2), 1);
    }

    private static void answerRefusals() {
        MeetingsAbove m = new MeetingsAbove();
        m.thing(0, 0, 0, 0, 0);
        m.thing(0, 10, 0, 0, 0);
        m.thing(0, 20, 0, 0, 0);
        m.notice(0, 1);
        Due.is("no such notice", m.answer(1, 0, 0), UNKNOWN);
        Due.is("no such notice", m.answer(-1, 0, 1), UNKNOWN);
        Due.is("no such thing", m.answer(0, 3, 0), UNKNOWN);
        Due.is("no such thing", m.answer(0, -1, 1), UNKNOWN);
        Due.is("what", m.answer(0, 0, 0), OUTSIDE);
        Due.is("what", m.answer(0, 0, 3), OUTSIDE);
        Due.is("OUTSIDE goes ahead of NOT", m.answer(0, 2, 3), OUTSIDE);
        Due.is("not of that thing", m.answer(0, 2, 1), NOT);
        Due.is("no answer was taken", m.noticed(0, 5) + m.noticed(0, 6), 0);
    }

    private static void noticed() {
        MeetingsAbove m = new MeetingsAbove();
        m.thing(0, 500, 0, 0, 0);
        m.thing(9, 0, 0, 0, 0);
        m.thing(9, 0, 3, 4, 0);
        m.notice(2, 1);
        m.notice(2, 1);
        m.answer(1, 2, 2);
        int[] want = {1, 2, 25, 9, 1, 0, 2, 0};
        for (int what = 0; what <= 7; what++) {
            Due.is("noticed(1, " + what + ")", m.noticed(1, what), want[what]);
        }
        Due.is("no such notice", m.noticed(2, 8), UNKNOWN);
        Due.is("no such notice", m.noticed(-1, 0), UNKNOWN);
        Due.is("what", m.noticed(0, 8), OUTSIDE);
        Due.is("what", m.noticed(0, -1), OUTSIDE);
    }
}
