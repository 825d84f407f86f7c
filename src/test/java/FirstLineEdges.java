import java.math.BigInteger;
import java.util.Arrays;
import java.util.HashSet;
import java.util.Random;
import java.util.Set;

/** What the first line of 'What it is' says of several calls at once: they agree, on many scenes, by their answers alone. */
final class FirstLineEdges {
    private static final int SCENES = 40, AXES = 3, NOT = MeetingsAbove.NOT, NONE = MeetingsAbove.NONE;
    private static Random random = new Random(0);

    private FirstLineEdges() {
    }

    static void all() {
        Edge.in("What it is");
        Edge.sentence("things on told paths, step by step", () -> scenes(FirstLineEdges::toldPaths));
        Edge.sentence("a sieve that leaves no near pair out", () -> scenes(FirstLineEdges::sieveLeavesNoneOut));
        Edge.sentence("the least distance of two, and when, exactly", () -> scenes(FirstLineEdges::exactly));
        Edge.sentence("boxes of doubt and shares of them that meet", () -> scenes(FirstLineEdges::shares));
        Edge.sentence("burns of the least fuel that make no other meeting", () -> scenes(FirstLineEdges::leastFuel));
        Edge.sentence("dots seen that belong to one thing, to several, to none", () -> scenes(FirstLineEdges::dots));
        Edge.sentence("things that break up", () -> scenes(FirstLineEdges::breakUps));
        Edge.sentence("notices that follow one another and are answered", () -> scenes(FirstLineEdges::notices));
        Edge.sentence("catalogues that are kept and held against each other", () -> scenes(FirstLineEdges::catalogues));
    }

    private static void scenes(Runnable one) {
        for (int scene = 0; scene < SCENES; scene++) {
            random = new Random(scene);
            one.run();
        }
    }

    private static int from(int least, int most) {
        return least + random.nextInt(most - least + 1);
    }

    private static String place(int spread) {
        return from(-spread, spread) + ", " + from(-spread, spread) + ", " + from(-spread, spread);
    }

    /** Things that begin at steps 0 to 2, with up to so many places. */
    private static String things(int n, int places, int spread, int doubt) {
        StringBuilder text = new StringBuilder();
        for (int t = 0; t < n; t++) {
            text.append("thing(" + from(0, 2) + ", " + place(spread) + ", " + from(0, doubt) + ") ");
            for (int i = from(1, places); i > 1; i--) {
                text.append("place(" + t + ", " + place(spread) + ") ");
            }
        }
        return text.toString();
    }

    private static void toldPaths() {
        int first = from(0, 39);
        int places = from(1, Math.min(12, 40 - first));
        int[][] told = new int[places][AXES];
        Run r = new Run("");
        for (int i = 0; i < places; i++) {
            told[i] = new int[] {from(-5000, 5000), from(-5000, 5000), from(-5000, 5000)};
            String ahead = i == 0 ? "thing(" + first + ", " : "place(0, ";
            r.does(ahead + told[i][0] + ", " + told[i][1] + ", " + told[i][2] + (i == 0 ? ", 0)" : ")"));
        }
        r.dueAll("told(0, *)", first, places, 0, 0, 0);
        for (int step = 0; step < 40; step++) {
            for (int axis = 0; axis < AXES; axis++) {
                boolean has = step >= first && step < first + places;
                r.due("at(0, " + step + ", " + axis + ")", has ? told[step - first][axis] : NOT);
            }
        }
    }

    private static void sieveLeavesNoneOut() {
        Run r = new Run(things(10, 4, 90, 0) + "rule(0, " + from(1, 80) + ")");
        Set<Integer> meetings = new HashSet<>();
        long all = r.asks("count", 2);
        for (int i = 0; i < all; i++) {
            meetings.add((int) (r.asks("meeting", i, 0) * 16 + r.asks("meeting", i, 1)));
        }
        for (int t = 0; t < 10; t++) {
            for (int u = t + 1; u < 10; u++) {
                long sieve = r.asks("sieve", t, u);
                Due.holds("sieve(" + t + ", " + u + ") = " + sieve + " leaves no meeting out",
                    sieve == 3 || sieve >= 0 && sieve < 3 && !meetings.contains(t * 16 + u));
                Due.is("sieve(" + u + ", " + t + ")", r.asks("sieve", u, t), sieve);
            }
        }
    }

    // ---- the least

    private static void exactly() {
        Run r = new Run(things(2, 6, random.nextBoolean() ? 20 : 5000, 0));
        int begin = (int) Math.max(r.asks("told", 0, 0), r.asks("told", 1, 0));
        int end = (int) Math.min(lastStep(r, 0), lastStep(r, 1));
        if (begin > end) {
            r.due("least(0, 1, 0)", NOT);
            return;
        }
        long[] least = new long[5];
        for (int what = 0; what < least.length; what++) {
            least[what] = r.asks("least", 0, 1, what);
        }
        long[][] gaps = gaps(r, begin, end);
        int itsWay = (int) least[2] - begin;
        Due.is("the square at the time of least(0, 1, *), against it", sign(gaps, itsWay, least[3], least[4], least), 0);
        for (int way = 0; way < gaps.length; way++) {
            for (long part = 0; part < (way + 1 < gaps.length ? 16 : 1); part++) {
                int sign = sign(gaps, way, part, 16, least);
                boolean isEarlier = way < itsWay || way == itsWay && part * least[4] < least[3] * 16;
                Due.holds("at step " + (begin + way) + " and " + part + " / 16 it is not less",
                    sign > 0 || sign == 0 && !isEarlier);
            }
        }
    }

    private static long lastStep(Run r, int t) {
        return r.asks("told", t, 0) + r.asks("told", t, 1) - 1;
    }

    private static long[][] gaps(Run r, int begin, int end) {
        long[][] gaps = new long[end - begin + 1][AXES];
        for (int i = 0; i < gaps.length; i++) {
            for (int axis = 0; axis < AXES; axis++) {
                gaps[i][axis] = r.asks("at", 0, begin + i, axis) - r.asks("at", 1, begin + i, axis);
            }
        }
        return gaps;
    }

    /** How the square of the distance, upper / lower of a way on, stands to the least one: below 0, 0, above 0. */
    private static int sign(long[][] gaps, int way, long upper, long lower, long[] least) {
        BigInteger sum = BigInteger.ZERO;
        for (int axis = 0; axis < AXES; axis++) {
            long far = upper == 0 ? 0 : gaps[way + 1][axis];
            sum = sum.add(BigInteger.valueOf(gaps[way][axis] * (lower - upper) + far * upper).pow(2));
        }
        return sum.multiply(BigInteger.valueOf(least[1]))
            .compareTo(BigInteger.valueOf(least[0]).multiply(BigInteger.valueOf(lower).pow(2)));
    }

    // ---- shares

    private static void shares() {
        int[] doubts = {from(0, 2), from(0, 2)};
        int[] gap = {from(0, 4), from(-4, 0), from(-2, 2)};
        int wide = from(0, 4);
        Run r = new Run("thing(7, 0, 0, 0, " + doubts[0] + ") thing(7, " + gap[0] + ", " + gap[1] + ", " + gap[2] + ", "
            + doubts[1] + ") rule(1, " + wide + ")");
        long all = 0;
        long close = 0;
        for (int[] one : cells(doubts[0], new int[AXES])) {
            for (int[] two : cells(doubts[1], gap)) {
                all++;
                close += Math.abs(one[0] - two[0]) <= wide && Math.abs(one[1] - two[1]) <= wide
                    && Math.abs(one[2] - two[2]) <= wide ? 1 : 0;
            }
        }
        long upper = r.asks("share", 0, 1, 7, 0);
        long lower = r.asks("share", 0, 1, 7, 1);
        Due.is("share(0, 1, 7, *) of " + close + " / " + all, upper * all, close * lower);
        BigInteger common = BigInteger.valueOf(upper).gcd(BigInteger.valueOf(lower));
        Due.is("the greatest divisor of both ends of the share", common.longValue(), 1);
    }

    private static int[][] cells(int doubt, int[] middle) {
        int side = 2 * doubt + 1;
        int[][] all = new int[side * side * side][];
        for (int i = 0; i < all.length; i++) {
            all[i] = new int[] {middle[0] - doubt + i / (side * side), middle[1] - doubt + i / side % side,
                middle[2] - doubt + i % side};
        }
        return all;
    }

    // ---- burns

    /** Every burn is done on an object of its own; the first of those that leave no meeting must be the best. */
    private static void leastFuel() {
        String scene = "rule(0, " + from(4, 12) + ") " + things(5, 4, 12, 0);
        Run r = new Run(scene);
        int begin = (int) r.asks("told", 0, 0);
        int[] best = null;
        for (int step = begin; step < lastStep(r, 0); step++) {
            for (int number = 0; number < 125; number++) {
                int[] burn = {0, -step, number / 25 - 2, number / 5 % 5 - 2, number % 5 - 2};
                burn[0] = Math.abs(burn[2]) + Math.abs(burn[3]) + Math.abs(burn[4]);
                if (number != 62 && new Run(scene).asks("burn", 0, step, burn[2], burn[3], burn[4]) == 0
                    && (best == null || Arrays.compare(burn, best) < 0)) {
                    best = burn;
                }
            }
        }
        String asked = "best(0, " + begin + ", *)";
        if (best == null) {
            r.dueAll(asked, NONE, NONE, 0, 0, 0);
        } else {
            r.dueAll(asked, best[0], -best[1], best[2], best[3], best[4]);
        }
    }

    // ---- dots, break-ups

    private static void dots() {
        Run r = new Run(things(8, 4, 10, 8));
        int[] kinds = new int[AXES];
        for (int d = 0; d < 40; d++) {
            r.does("dot(" + from(0, 5) + ", " + place(12) + ")");
            long of = r.asks("dotted", d, 0);
            long least = r.asks("dotted", d, 1);
            Due.holds("dotted(" + d + ", *) = " + of + ", " + least,
                of == 0 ? least == NONE : least >= 0 && least <= 8 - of);
            kinds[of == 1 ? 0 : of > 1 ? 1 : 2]++;
        }
        r.due("count(3) count(4) count(5) count(6)", 40, kinds[0], kinds[1], kinds[2]);
        for (int t = 0; t < 8; t++) {
            r.does("gone(" + t + ")");
        }
        r.due("count(3) count(4) count(5) count(6)", 40, 0, 0, 40);
    }

    private static void breakUps() {
        Run r = new Run(things(3, 6, 90, 9));
        int n = from(2, 6);
        int step = from((int) r.asks("told", 1, 0), (int) lastStep(r, 1));
        r.due("breaks(1, " + step + ", " + n + ")", 3).due("told(1, 3) count(0) count(1)", 1, 3 + n, 2 + n);
        for (int part = 3; part < 3 + n; part++) {
            r.dueAll("told(" + part + ", *)", step, lastStep(r, 1) - step + 1, r.asks("told", 1, 2), 0);
            for (int axis = 0; axis < AXES; axis++) {
                r.due("at(" + part + ", " + step + ", " + axis + ")", r.asks("at", 1, step, axis));
            }
            // They begin as one, so each meets all the others.
            Due.holds("told(" + part + ", 4)", r.asks("told", part, 4) >= n - 1);
        }
    }

    // ---- notices, catalogues

    private static void notices() {
        Run r = new Run("thing(0, 0, 0, 0, 0) thing(0, 1, 0, 0, 0) thing(0, 2, 0, 0, 0) thing(0, 3, 0, 0, 0)");
        int[] last = new int[16];
        Arrays.fill(last, NONE);
        int late = 0;
        for (int n = 0; n < 40; n++) {
            int t = from(0, 3);
            int u = (t + from(1, 3)) % 4;
            int pair = 4 * Math.min(t, u) + Math.max(t, u);
            r.due("notice(" + t + ", " + u + ")", n);
            r.due("noticed(" + n + ", 7)", last[pair]);
            if (last[pair] != NONE) {
                r.due("noticed(" + last[pair] + ", 4) answer(" + last[pair] + ", " + t + ", 1)", 0, 0);
                late++;
            }
            last[pair] = n;
            int what = from(1, 2);
            r.due("answer(" + n + ", " + u + ", " + what + ")", 1);
            r.due("noticed(" + n + ", 5) noticed(" + n + ", 6)", u < t ? what : 0, u < t ? 0 : what);
        }
        long pairs = Arrays.stream(last).filter(n -> n != NONE).count();
        r.due("count(7) count(8) count(9)", 40, pairs, late);
    }

    private static void catalogues() {
        Run r = new Run(things(10, 4, 900, 9) + "keep(0)");
        Set<Integer> changed = new HashSet<>();
        for (int i = 0; i < 8; i++) {
            int t = from(0, 9);
            boolean isGone = r.asks("told", t, 3) == 1;
            long answer = from(0, 1) == 0 ? r.asks("gone", t) : r.asks("place", t, 0, 0, 0);
            Due.is("whether thing " + t + ", if gone, is left alone", answer == NOT ? 1 : 0, isGone ? 1 : 0);
            changed.add(t);
            r.due("differs(0)", changed.size()).due("keep(1) differs(1)", 10, 0);
        }
    }
}
