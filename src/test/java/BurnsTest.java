/** Promises 14 and 15: the best burn, and burns that are done. */
public final class BurnsTest {
    private static final int UNKNOWN = MeetingsAbove.UNKNOWN, OUTSIDE = MeetingsAbove.OUTSIDE;
    private static final int NOT = MeetingsAbove.NOT, NONE = MeetingsAbove.NONE;

    public static void main(String[] args) {
        bestOfOneAlone();
        bestAtTheEdge();
        bestGoesRoundAnother();
        bestMakesNoOtherMeeting();
        bestNeedsMoreFuel();
        bestPushesUpwards();
        bestBehindAMeetingIsNone();
        bestSeesMeetingsBetweenSteps();
        bestOfALaterNumber();
        bestWithTheLastStepIsNone();
        bestRefusals();
        burn();
        burnAtTheLastStep();
        burnOutOfBounds();
        burnRefusals();
        Due.end();
    }

    private static void dueBest(String what, MeetingsAbove m, int t, int from, int... want) {
        for (int i = 0; i < want.length; i++) {
            Due.is(what + ": best " + i, m.best(t, from, i), want[i]);
        }
    }

    /** A thing that stays at its place for so many steps. */
    private static int rests(MeetingsAbove m, int step, int places, int x, int y, int z) {
        int t = m.thing(step, x, y, z, 0);
        for (int i = 1; i < places; i++) {
            m.place(t, x, y, z);
        }
        return t;
    }

    private static void bestOfOneAlone() {
        MeetingsAbove m = new MeetingsAbove();
        rests(m, 3, 5, 0, 0, 0);
        dueBest("least fuel, latest step, least a", m, 0, 3, 1, 6, -1, 0, 0);
        dueBest("from the last but one", m, 0, 6, 1, 6, -1, 0, 0);
        Due.is("asking changes nothing", m.at(0, 7, 0), 0);
    }

    private static void bestAtTheEdge() {
        MeetingsAbove m = new MeetingsAbove();
        rests(m, 0, 3, -5000, -5000, -5000);
        dueBest("only upwards, so c first", m, 0, 0, 1, 1, 0, 0, 1);
        rests(m, 0, 3, -5000, 5000, -5000);
        dueBest("b below 0 goes first", m, 1, 0, 1, 1, 0, -1, 0);
    }

    private static void bestGoesRoundAnother() {
        MeetingsAbove m = new MeetingsAbove();
        m.rule(0, 10);
        rests(m, 0, 6, 0, 0, 0);
        m.thing(5, 8, 0, 0, 0);
        // At step 5 it must be 2 away to the left: one push at step 3 does it.
        dueBest("in time", m, 0, 0, 1, 3, -1, 0, 0);
        Due.is("too late with one", m.best(0, 4, 0), 2);
        dueBest("two at the last", m, 0, 4, 2, 4, -2, 0, 0);
        m.gone(1);
        dueBest("what is gone stands in no way", m, 0, 0, 1, 4, -1, 0, 0);
    }

    private static void bestMakesNoOtherMeeting() {
        MeetingsAbove m = new MeetingsAbove();
        m.rule(0, 10);
        rests(m, 0, 6, 0, 0, 0);
        m.thing(5, 8, 0, 0, 0);
        m.thing(5, -10, 0, 0, 0);
        // To the left another one stands; the square of the way up must make 100 with 8.
        Due.is("by two it would meet the other", m.burn(0, 3, -1, 0, 0), 1);
        Due.is("it meets the second one", m.told(2, 4), 1);
        m.burn(0, 3, 1, 0, 0);
        // Off to the side by 6 or more: three steps of 2; five steps of 1 would not do.
        dueBest("to the side", m, 0, 2, 2, 2, 0, -2, 0);
        dueBest("from the start", m, 0, 0, 2, 2, 0, -2, 0);
        m = new MeetingsAbove();
        m.rule(0, 8);
        rests(m, 0, 6, 0, 0, 0);
        m.thing(5, 7, 0, 0, 0);
        m.thing(5, -7, 0, 0, 0);
        // Four to the side do: 1 from step 1 on, or 2 from step 3 on.
        dueBest("less fuel goes ahead of the later step", m, 0, 0, 1, 1, 0, -1, 0);
        dueBest("from behind it", m, 0, 2, 2, 3, 0, -2, 0);
    }

    private static void bestNeedsMoreFuel() {
        MeetingsAbove m = new MeetingsAbove();
        m.rule(0, 3);
        rests(m, 0, 2, 0, 0, 0);
        m.thing(1, 0, 0, 0, 0);
        // At one step's distance 3 times 3 needs two pushes of 2 and one of 1 in any order.
        dueBest("five of fuel", m, 0, 0, 5, 0, -2, -2, -1);
        m.rule(0, 4);
        dueBest("no push is enough", m, 0, 0, NONE, NONE, 0, 0, 0);
    }

    private static void bestPushesUpwards() {
        MeetingsAbove m = new MeetingsAbove();
        m.rule(0, 5);
        rests(m, 0, 2, 0, 0, 0);
        m.thing(1, -1, -1, -1, 0);
        // 3 times 9 is enough for 25; 9 and 9 and 4 is not.
        dueBest("all six of fuel", m, 0, 0, 6, 0, 2, 2, 2);
        m.rule(0, 6);
        dueBest("not enough", m, 0, 0, NONE, NONE, 0, 0, 0);
    }

    private static void bestSeesMeetingsBetweenSteps() {
        MeetingsAbove m = new MeetingsAbove();
        m.rule(0, 2);
        rests(m, 0, 4, 0, 0, 0);
        m.thing(1, 0, 100, 0, 0);
        m.place(1, 0, -100, 0);
        m.place(1, 0, -100, 0);
        dueBest("behind the pass", m, 0, 2, NONE, NONE, 0, 0, 0);
        // At the pass, one and a half steps behind step 0, a push of 2 makes 3, one of 1 not 2.
        dueBest("ahead of it", m, 0, 0, 2, 0, -2, 0, 0);
        dueBest("half a step ahead of it", m, 0, 1, NONE, NONE, 0, 0, 0);
    }

    private static void bestOfALaterNumber() {
        MeetingsAbove m = new MeetingsAbove();
        m.rule(0, 10);
        m.thing(5, 8, 0, 0, 0);
        m.thing(5, 0, 8, 0, 0);
        rests(m, 0, 6, 0, 0, 0);
        m.thing(5, 0, 0, -30, 0);
        // Away from one alone it meets the other; by 2 and 2 the squares are 104.
        dueBest("away from both", m, 2, 0, 2, 3, -1, -1, 0);
        Due.is("it is done", m.burn(2, 3, -1, -1, 0), 0);
    }

    private static void bestBehindAMeetingIsNone() {
        MeetingsAbove m = new MeetingsAbove();
        rests(m, 0, 6, 0, 0, 0);
        m.thing(2, 10, 0, 0, 0);
        dueBest("the meeting lies ahead of the burn", m, 0, 2, NONE, NONE, 0, 0, 0);
        m.rule(0, 11);
        dueBest("one ahead of the meeting is free", m, 0, 0, 1, 1, -1, 0, 0);
        dueBest("none at the meeting's own step", m, 0, 2, NONE, NONE, 0, 0, 0);
        m.rule(0, 12);
        Due.is("two steps ahead for two", m.best(0, 0, 1), 0);
    }

    private static void bestWithTheLastStepIsNone() {
        MeetingsAbove m = new MeetingsAbove();
        rests(m, 0, 3, 0, 0, 0);
        dueBest("from the last step", m, 0, 2, NONE, NONE, 0, 0, 0);
        m.thing(39, 0, 0, 0, 0);
        dueBest("with one place", m, 1, 39, NONE, NONE, 0, 0, 0);
    }

    private static void bestRefusals() {
        MeetingsAbove m = new MeetingsAbove();
        rests(m, 3, 3, 0, 0, 0);
        Due.is("no such thing", m.best(1, 99, 9), UNKNOWN);
        Due.is("no such thing", m.best(-1, 3, 0), UNKNOWN);
        Due.is("no place at the step", m.best(0, 2, 0), OUTSIDE);
        Due.is("no place at the step", m.best(0, 6, 0), OUTSIDE);
        Due.is("no such step", m.best(0, Integer.MIN_VALUE, 0), OUTSIDE);
        Due.is("what", m.best(0, 3, 5), OUTSIDE);
        Due.is("what", m.best(0, 3, -1), OUTSIDE);
        m.gone(0);
        Due.is("gone", m.best(0, 3, 0), NOT);
        Due.is("OUTSIDE goes ahead of NOT", m.best(0, 6, 0), OUTSIDE);
    }

    private static void burn() {
        MeetingsAbove m = new MeetingsAbove();
        rests(m, 2, 4, 10, 20, 30);
        rests(m, 2, 4, 10, 20, 30);
        Due.is("burn", m.burn(0, 3, 2, -1, -2), 1);
        for (int step = 2; step <= 5; step++) {
            int i = Math.max(0, step - 3);
            Due.is("x at " + step, m.at(0, step, 0), 10 + 2 * i);
            Due.is("y at " + step, m.at(0, step, 1), 20 - i);
            Due.is("z at " + step, m.at(0, step, 2), 30 - 2 * i);
            Due.is("the other stays", m.at(1, step, 0), 10);
        }
        m.thing(5, 62, 20, 30, 0);
        Due.is("how many it meets then", m.burn(0, 4, 2, 0, 0), 2);
        Due.is("not what is gone", m.gone(1), 1);
        Due.is("how many it meets then", m.burn(0, 4, -2, 0, 0), 1);
        Due.is("its doubt and steps stay", m.told(0, 1), 4);
    }

    private static void burnAtTheLastStep() {
        MeetingsAbove m = new MeetingsAbove();
        rests(m, 0, 2, 5000, 5000, 5000);
        m.thing(1, 5000, 5000, 4990, 0);
        Due.is("nothing moves", m.burn(0, 1, 2, 2, 2), 1);
        Due.is("nothing moved", m.at(0, 1, 0), 5000);
    }

    private static void burnOutOfBounds() {
        int[][] out = {{2, 0, 0}, {0, 1, 0}, {0, 0, -1}};
        MeetingsAbove m = new MeetingsAbove();
        m.thing(0, 0, 0, 0, 0);
        m.place(0, 4998, 4999, -4999);
        m.place(0, 4998, 4999, -4999);
        for (int[] w : out) {
            Due.is("out of bounds", m.burn(0, 0, w[0], w[1], w[2]), NOT);
        }
        Due.is("nothing moved", m.at(0, 1, 0), 4998);
        Due.is("just inside", m.burn(0, 1, 2, 1, -1), 0);
        Due.is("x", m.at(0, 2, 0), 5000);
        Due.is("y", m.at(0, 2, 1), 5000);
        Due.is("z", m.at(0, 2, 2), -5000);
    }

    private static void burnRefusals() {
        MeetingsAbove m = new MeetingsAbove();
        rests(m, 3, 3, 0, 0, 0);
        Due.is("no such thing", m.burn(1, 99, 0, 0, 0), UNKNOWN);
        Due.is("no such thing", m.burn(-1, 3, 1, 0, 0), UNKNOWN);
        int[][] outside = {
            {2, 1, 0, 0}, {6, 1, 0, 0}, {-1, 1, 0, 0}, {3, 0, 0, 0}, {3, 3, 0, 0}, {3, -3, 0, 0}, {3, 0, 3, 0},
            {3, 0, -3, 0}, {3, 0, 0, 3}, {3, 0, 0, -3}, {3, Integer.MIN_VALUE, Integer.MIN_VALUE, 0}};
        for (int[] w : outside) {
            Due.is("burn outside", m.burn(0, w[0], w[1], w[2], w[3]), OUTSIDE);
        }
        m.gone(0);
        Due.is("gone", m.burn(0, 3, 1, 0, 0), NOT);
        Due.is("OUTSIDE goes ahead of NOT", m.burn(0, 3, 0, 0, 0), OUTSIDE);
        for (int step = 3; step <= 5; step++) {
            Due.is("nothing moved", m.at(0, step, 0), 0);
        }
    }
}
