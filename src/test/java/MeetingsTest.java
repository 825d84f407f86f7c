/** Promises 10 to 13: the sieve, the least of two, meetings and shares. */
public final class MeetingsTest {
    private static final int UNKNOWN = MeetingsAbove.UNKNOWN, OUTSIDE = MeetingsAbove.OUTSIDE;
    private static final int NOT = MeetingsAbove.NOT, NONE = MeetingsAbove.NONE;

    public static void main(String[] args) {
        sieveHeights();
        sieveWindows();
        sieveOfOneStep();
        sieveRefusals();
        leastBetweenSteps();
        leastTakesTheFirstTime();
        leastAtTheEnds();
        leastOfLargeNumbers();
        leastOnlyWhereTogether();
        leastRefusals();
        meeting();
        meetingNeedsLessThanNear();
        share();
        shareOfUnlikeBoxes();
        shareOfTheLargestBoxes();
        shareRefusals();
        Due.end();
    }

    /** A thing with these places, three numbers each. */
    private static int path(MeetingsAbove m, int step, int... xyz) {
        int t = m.thing(step, xyz[0], xyz[1], xyz[2], 0);
        for (int i = 3; i < xyz.length; i += 3) {
            m.place(t, xyz[i], xyz[i + 1], xyz[i + 2]);
        }
        return t;
    }

    private static void dueLeast(String what, MeetingsAbove m, int t, int u, long... want) {
        for (int i = 0; i < want.length; i++) {
            Due.is(what + ": least " + i, m.least(t, u, i), want[i]);
            Due.is(what + ": least the other way " + i, m.least(u, t, i), want[i]);
        }
    }

    private static void sieveHeights() {
        for (int axis = 0; axis < 3; axis++) {
            MeetingsAbove m = new MeetingsAbove();
            int[] low = new int[6];
            int[] high = new int[6];
            low[axis] = 10;
            low[3 + axis] = 20;
            high[axis] = 80;
            high[3 + axis] = 70;
            path(m, 0, low);
            path(m, 0, high);
            Due.is("just NEAR above", m.sieve(0, 1), 1);
            Due.is("just NEAR above, the other way", m.sieve(1, 0), 1);
            Due.is("nor do they meet", m.count(2), 0);
            m.rule(0, 51);
            Due.is("less than NEAR above", m.sieve(0, 1), 3);
            Due.is("less than NEAR above, the other way", m.sieve(1, 0), 3);
        }
        MeetingsAbove m = new MeetingsAbove();
        path(m, 0, 0, 0, 0, 0, 0, 0, 500, 0, 0);
        path(m, 1, 60, 0, 0);
        path(m, 0, 0, 60, 0, 60, 0, 0);
        Due.is("only the steps together count", m.sieve(0, 1), 1);
        Due.is("one axis for all steps", m.sieve(0, 2), 3);
    }

    private static void sieveWindows() {
        MeetingsAbove m = new MeetingsAbove();
        path(m, 0, 0, 0, 0, 0, 0, 0, 0, 0, 0);
        path(m, 0, 60, 0, 0, 60, 60, 0, 0, 60, 0);
        Due.is("another axis on each way", m.sieve(0, 1), 2);
        Due.is("the other way", m.sieve(1, 0), 2);
        Due.is("they don't meet", m.count(2), 0);
        path(m, 0, 60, 0, 0, 0, 60, 0, 0, 60, 0);
        Due.is("one way with no axis for both ends", m.sieve(0, 2), 3);
        path(m, 0, 60, 0, 0, -60, 0, 0, 60, 0, 0);
        Due.is("now above, now below", m.sieve(0, 3), 3);
    }

    private static void sieveOfOneStep() {
        MeetingsAbove m = new MeetingsAbove();
        path(m, 0, 0, 0, 0, 0, 0, 0);
        path(m, 1, 49, 49, 49, 0, 0, 0);
        path(m, 1, 0, 0, -50, 0, 0, 0);
        path(m, 2, 0, 0, 0);
        Due.is("one step, no axis", m.sieve(0, 1), 3);
        Due.is("and no meeting all the same", m.told(0, 4), 0);
        Due.is("one step, an axis", m.sieve(0, 2), 1);
        Due.is("not together", m.sieve(0, 3), 0);
    }

    private static void sieveRefusals() {
        MeetingsAbove m = new MeetingsAbove();
        path(m, 0, 0, 0, 0);
        path(m, 0, 0, 0, 0);
        Due.is("no such thing", m.sieve(0, 2), UNKNOWN);
        Due.is("no such thing", m.sieve(2, 0), UNKNOWN);
        Due.is("UNKNOWN goes ahead of NOT", m.sieve(2, 2), UNKNOWN);
        Due.is("no such thing", m.sieve(-1, 0), UNKNOWN);
        Due.is("one and the same", m.sieve(1, 1), NOT);
        m.gone(1);
        Due.is("one is gone", m.sieve(0, 1), 0);
        Due.is("one is gone, the other way", m.sieve(1, 0), 0);
        Due.is("one and the same, gone", m.sieve(1, 1), NOT);
    }

    private static void leastBetweenSteps() {
        MeetingsAbove m = new MeetingsAbove();
        path(m, 3, 0, 0, 0, 3, 0, 0);
        path(m, 3, 1, 2, 0, 1, 1, 0);
        // The gap goes from (-1, -2) to (2, -1): the change is (3, 1), the turn -5 of 10.
        dueLeast("half way", m, 0, 1, 5, 2, 3, 1, 2);
        m = new MeetingsAbove();
        path(m, 0, 0, 0, 0, 7, 0, 0);
        path(m, 0, 2, 5, 0, 2, 5, 0);
        dueLeast("two sevenths", m, 0, 1, 25, 1, 0, 2, 7);
        m = new MeetingsAbove();
        path(m, 10, 0, 0, 0, 1, 2, 3);
        path(m, 10, 1, 1, 1, 1, 1, 1);
        dueLeast("in least terms", m, 0, 1, 3, 7, 10, 3, 7);
    }

    private static void leastTakesTheFirstTime() {
        MeetingsAbove m = new MeetingsAbove();
        path(m, 0, 0, 0, 0, 10, 0, 0, 0, 0, 0, 10, 0, 0);
        path(m, 0, 5, 1, 0, 5, 1, 0, 5, 1, 0, 5, 1, 0);
        dueLeast("of three times the first", m, 0, 1, 1, 1, 0, 1, 2);
        m = new MeetingsAbove();
        path(m, 2, 9, 0, 0, 4, 0, 0, 8, 0, 0, 12, 0, 0);
        path(m, 2, 0, 0, 0, 0, 0, 0, 4, 0, 0, 8, 0, 0);
        dueLeast("from then on at rest", m, 0, 1, 16, 1, 3, 0, 1);
        m = new MeetingsAbove();
        path(m, 2, 0, 0, 0, 5, 0, 0, 10, 0, 0);
        path(m, 2, 0, 7, 0, 5, 7, 0, 10, 7, 0);
        dueLeast("always the same", m, 0, 1, 49, 1, 2, 0, 1);
        m = new MeetingsAbove();
        path(m, 0, 100, 0, 0, 10, 3, 0, -10, 3, 0, -10, 1, 0, 10, 1, 0);
        path(m, 0, 0, 0, 0, 0, 0, 0, 0, 0, 0, 0, 0, 0, 0, 0, 0);
        dueLeast("a later one that is less", m, 0, 1, 1, 1, 3, 1, 2);
    }

    private static void leastAtTheEnds() {
        MeetingsAbove m = new MeetingsAbove();
        path(m, 0, 10, 0, 0, 20, 0, 0);
        path(m, 0, 0, 0, 0, 0, 0, 0);
        dueLeast("at the start", m, 0, 1, 100, 1, 0, 0, 1);
        m = new MeetingsAbove();
        path(m, 0, 20, 0, 0, 10, 0, 0);
        path(m, 0, 0, 0, 0, 0, 0, 0);
        dueLeast("at the end", m, 0, 1, 100, 1, 1, 0, 1);
        m = new MeetingsAbove();
        path(m, 0, 20, 0, 0, 10, 0, 0, 20, 0, 0);
        path(m, 0, 0, 0, 0, 0, 0, 0, 0, 0, 0);
        dueLeast("at a step in the middle", m, 0, 1, 100, 1, 1, 0, 1);
        m = new MeetingsAbove();
        path(m, 0, 20, 0, 0, 0, 0, 0, -20, 0, 0);
        path(m, 0, 0, 0, 0, 0, 0, 0, 0, 0, 0);
        dueLeast("no distance", m, 0, 1, 0, 1, 1, 0, 1);
        m = new MeetingsAbove();
        path(m, 39, 0, 0, 0);
        path(m, 39, 1, 0, 0);
        dueLeast("at the only step", m, 0, 1, 1, 1, 39, 0, 1);
    }

    /** In the last two, products of the fractions of both ways leave a long and would mislead. */
    private static void leastOfLargeNumbers() {
        MeetingsAbove m = new MeetingsAbove();
        path(m, 0, 5000, 5000, 5000, -5000, -5000, -4999);
        path(m, 0, -5000, -5000, -4999, 5000, 5000, 4997);
        dueLeast("large", m, 0, 1, 72000000, 47992001, 0, 119986001, 239960005);
        m = new MeetingsAbove();
        path(m, 0, 5000, 5000, 5000, -5000, -5000, -5000);
        path(m, 0, -5000, 5000, -5000, -4999, -5000, 4998);
        dueLeast("large", m, 0, 1, 1998800180000000L, 99988001, 0, 59998000, 99988001);
        m = new MeetingsAbove();
        path(m, 0, 4999, -4998, -4997, -5000, 4997, 5000, -4998, 4999, -4997, 4997, -5000, 4999);
        path(m, 0, 5000, 5000, 4997, -5000, -5000, 5000, 5000, 5000, 4997, -5000, -5000, 5000);
        dueLeast("the first", m, 0, 1, 9982011796700333L, 499680062, 0, 299790047, 499680062);
        m = new MeetingsAbove();
        path(m, 0, -5000, -5000, 5000, -5000, 5000, 5000, -5000, -5000, 5000, 5000, -4999, 5000);
        path(m, 0, -5000, 5000, -5000, 5000, -5000, -4996, 5000, -5000, -5000, -5000, 5000, -4996);
        dueLeast("the second", m, 0, 1, 59980001800000000L, 499980017, 2, 200040000, 499980017);
    }

    private static void leastOnlyWhereTogether() {
        MeetingsAbove m = new MeetingsAbove();
        path(m, 0, 0, 0, 0, 0, 0, 0, 50, 0, 0);
        path(m, 2, 0, 0, 0, 0, 0, 0);
        dueLeast("only one step together", m, 0, 1, 2500, 1, 2, 0, 1);
        Due.is("just NEAR is not below it", m.count(2), 0);
        path(m, 3, 0, 0, 0);
        path(m, 2, 0, 0, 0, 500, 0, 0, 0, 0, 0);
        dueLeast("not where only one goes on", m, 0, 3, 2500, 1, 2, 0, 1);
        Due.is("nor do they meet there", m.told(0, 4), 0);
        Due.is("not together", m.least(0, 2, 0), NOT);
        Due.is("not together, the other way", m.least(2, 0, 4), NOT);
    }

    private static void leastRefusals() {
        MeetingsAbove m = new MeetingsAbove();
        path(m, 0, 0, 0, 0);
        path(m, 0, 3, 4, 0);
        Due.is("no such thing", m.least(0, 2, 9), UNKNOWN);
        Due.is("no such thing", m.least(-1, 0, 0), UNKNOWN);
        Due.is("what", m.least(0, 1, 5), OUTSIDE);
        Due.is("what", m.least(0, 1, -1), OUTSIDE);
        Due.is("OUTSIDE goes ahead of NOT", m.least(0, 0, 5), OUTSIDE);
        Due.is("one and the same", m.least(0, 0, 0), NOT);
        m.gone(0);
        m.gone(1);
        dueLeast("also of what is gone", m, 0, 1, 25, 1, 0, 0, 1);
    }

    private static void meeting() {
        MeetingsAbove m = new MeetingsAbove();
        path(m, 0, 0, 0, 0);
        path(m, 0, 1000, 0, 0);
        path(m, 0, 1010, 0, 0);
        path(m, 0, 10, 0, 0);
        path(m, 0, 20, 0, 0);
        int[][] want = {{0, 3}, {0, 4}, {1, 2}, {3, 4}};
        for (int i = 0; i < want.length; i++) {
            Due.is("lesser of " + i, m.meeting(i, 0), want[i][0]);
            Due.is("greater of " + i, m.meeting(i, 1), want[i][1]);
        }
        Due.is("how many", m.count(2), 4);
        Due.is("none such", m.meeting(4, 0), NONE);
        Due.is("none such", m.meeting(4, 1), NONE);
        Due.is("none such", m.meeting(-1, 0), NONE);
        Due.is("none such", m.meeting(Integer.MAX_VALUE, 0), NONE);
        Due.is("what", m.meeting(0, 2), OUTSIDE);
        Due.is("OUTSIDE goes ahead of NONE", m.meeting(9, -1), OUTSIDE);
        m.gone(0);
        Due.is("the first without what is gone", m.meeting(0, 0), 1);
        Due.is("the last without what is gone", m.meeting(1, 1), 4);
        Due.is("how many without it", m.count(2), 2);
    }

    private static void meetingNeedsLessThanNear() {
        MeetingsAbove m = new MeetingsAbove();
        path(m, 0, -100, 30, 40, 100, 30, 40);
        path(m, 0, 0, 0, 0, 0, 0, 0);
        Due.is("a pass at just NEAR", m.count(2), 0);
        m.rule(0, 51);
        Due.is("a pass below NEAR", m.count(2), 1);
        Due.is("its least", m.least(0, 1, 0), 2500);
        m.rule(0, 1);
        path(m, 0, 1, 1, 0, 0, 1, 1);
        path(m, 0, 0, 0, 0, 1, 0, 0);
        // The gap goes from (1, 1, 0) to (-1, 1, 1): 6 / 5 at the least.
        dueLeast("just above 1", m, 2, 3, 6, 5, 0, 2, 5);
        Due.is("above NEAR by a fraction", m.told(2, 4), 0);
        path(m, 5, 1, 0, 0, 0, 1, 0);
        path(m, 5, 0, 0, 0, 0, 0, 0);
        dueLeast("a half", m, 4, 5, 1, 2, 5, 1, 2);
        Due.is("below NEAR by a fraction", m.told(4, 4), 1);
    }

    private static void share() {
        MeetingsAbove m = new MeetingsAbove();
        m.thing(0, 0, 0, 0, 1);
        m.thing(0, 2, 1, 0, 1);
        m.rule(1, 0);
        // Of 9 pairs along each axis 1, 2 and 3 are the same cell.
        Due.is("upper", m.share(0, 1, 0, 0), 2);
        Due.is("lower", m.share(0, 1, 0, 1), 243);
        Due.is("upper, the other way", m.share(1, 0, 0, 0), 2);
        Due.is("lower, the other way", m.share(1, 0, 0, 1), 243);
        m.rule(1, 1);
        Due.is("upper", m.share(0, 1, 0, 0), 14);
        Due.is("lower", m.share(0, 1, 0, 1), 81);
        m.rule(1, 400);
        Due.is("all", m.share(0, 1, 0, 0), 1);
        Due.is("all", m.share(0, 1, 0, 1), 1);
        m.gone(0);
        Due.is("also of what is gone", m.share(0, 1, 0, 0), 1);
    }

    private static void shareOfUnlikeBoxes() {
        MeetingsAbove m = new MeetingsAbove();
        m.thing(0, 0, 0, 0, 0);
        m.thing(0, 0, 0, 0, 2);
        m.rule(1, 1);
        Due.is("27 of 125", m.share(0, 1, 0, 0), 27);
        Due.is("27 of 125", m.share(0, 1, 0, 1), 125);
        m.thing(0, 4, 0, 0, 2);
        Due.is("none", m.share(0, 2, 0, 0), 0);
        Due.is("none", m.share(0, 2, 0, 1), 1);
        m.rule(1, 2);
        Due.is("the near side alone", m.share(0, 2, 0, 0), 1);
        Due.is("the near side alone", m.share(0, 2, 0, 1), 5);
    }

    private static void shareOfTheLargestBoxes() {
        MeetingsAbove m = new MeetingsAbove();
        m.thing(0, 5000, 5000, 5000, 200);
        m.thing(0, 5000, 5000, 5000, 200);
        m.rule(1, 0);
        Due.is("the same cell", m.share(0, 1, 0, 0), 1);
        Due.is("the same cell", m.share(0, 1, 0, 1), 401L * 401 * 401);
        m.rule(1, 1);
        // 401 + 2 times 400 pairs along each axis; 1201 and 401 have no divisor in common.
        Due.is("and its neighbours", m.share(0, 1, 0, 0), 1201L * 1201 * 1201);
        Due.is("and its neighbours", m.share(0, 1, 0, 1), 160801L * 160801 * 160801);
    }

    private static void shareRefusals() {
        MeetingsAbove m = new MeetingsAbove();
        m.thing(5, 0, 0, 0, 0);
        m.thing(6, 0, 0, 0, 0);
        Due.is("no such thing", m.share(0, 2, 40, 9), UNKNOWN);
        Due.is("no such thing", m.share(-1, 0, 0, 0), UNKNOWN);
        Due.is("no such step", m.share(0, 1, 40, 0), OUTSIDE);
        Due.is("no such step", m.share(0, 1, -1, 0), OUTSIDE);
        Due.is("what", m.share(0, 1, 5, 2), OUTSIDE);
        Due.is("what", m.share(0, 1, 5, -1), OUTSIDE);
        Due.is("OUTSIDE goes ahead of NOT", m.share(0, 0, 40, 0), OUTSIDE);
        Due.is("one and the same", m.share(0, 0, 5, 0), NOT);
        Due.is("the other has no place", m.share(0, 1, 5, 0), NOT);
        Due.is("the one has no place", m.share(0, 1, 6, 0), NOT);
        Due.is("neither has", m.share(0, 1, 39, 1), NOT);
    }
}
