import java.math.BigInteger;
import java.util.ArrayList;
import java.util.HashSet;
import java.util.List;
import java.util.Set;

/** The document once more, as slow and as plain as can be: big numbers, sets of cells, no shortcut. */
final class PlainModel {
    private static final int NONE = -1, UNKNOWN = -100001, OUTSIDE = -100002, NOT = -100003, FULL = -100004;

    /** Places by step; null where there is none. */
    static final class Body {
        final int[][] place = new int[40][];
        int doubt;
        boolean gone;

        Body copy() {
            Body b = new Body();
            for (int s = 0; s < 40; s++) {
                b.place[s] = place[s] == null ? null : place[s].clone();
            }
            b.doubt = doubt;
            b.gone = gone;
            return b;
        }

        int first() {
            int s = 0;
            while (place[s] == null) {
                s++;
            }
            return s;
        }

        int last() {
            int s = 39;
            while (place[s] == null) {
                s--;
            }
            return s;
        }

        boolean has(int step) {
            return step >= 0 && step < 40 && place[step] != null;
        }

        String text() {
            return java.util.Arrays.deepToString(place) + doubt + gone;
        }
    }

    static final class Ratio implements Comparable<Ratio> {
        final BigInteger up;
        final BigInteger down;

        Ratio(BigInteger u, BigInteger d) {
            BigInteger g = u.gcd(d);
            up = u.divide(g);
            down = d.divide(g);
        }

        static Ratio of(long u) {
            return new Ratio(BigInteger.valueOf(u), BigInteger.ONE);
        }

        Ratio plus(Ratio o) {
            return new Ratio(up.multiply(o.down).add(o.up.multiply(down)), down.multiply(o.down));
        }

        Ratio times(Ratio o) {
            return new Ratio(up.multiply(o.up), down.multiply(o.down));
        }

        public int compareTo(Ratio o) {
            return up.multiply(o.down).compareTo(o.up.multiply(down));
        }
    }

    private final List<Body> things = new ArrayList<>();
    private final List<int[]> dots = new ArrayList<>();
    /** lesser, greater, least, step, superseded, answer, answer, ahead. */
    private final List<int[]> notices = new ArrayList<>();
    private final List<List<Body>> shelves = new ArrayList<>(List.of(new ArrayList<>(), new ArrayList<>()));
    private int late = 0;
    private int near = 50;
    private int wide = 20;

    private boolean unknown(int t) {
        return t < 0 || t >= things.size();
    }

    private static boolean out(long v, int a, int b) {
        return v < a || v > b;
    }

    private static boolean outPlace(int x, int y, int z) {
        return out(x, -5000, 5000) || out(y, -5000, 5000) || out(z, -5000, 5000);
    }

    int thing(int step, int x, int y, int z, int doubt) {
        if (out(step, 0, 39) || outPlace(x, y, z) || out(doubt, 0, 200)) return OUTSIDE;
        if (things.size() == 16) return FULL;
        Body b = new Body();
        b.place[step] = new int[] {x, y, z};
        b.doubt = doubt;
        things.add(b);
        return things.size() - 1;
    }

    int place(int t, int x, int y, int z) {
        if (unknown(t)) return UNKNOWN;
        if (outPlace(x, y, z)) return OUTSIDE;
        Body b = things.get(t);
        if (b.gone || b.has(39)) return NOT;
        if (b.last() - b.first() == 11) return FULL;
        b.place[b.last() + 1] = new int[] {x, y, z};
        return told(t, 1);
    }

    int gone(int t) {
        if (unknown(t)) return UNKNOWN;
        if (things.get(t).gone) return NOT;
        things.get(t).gone = true;
        return 1;
    }

    int breaks(int t, int step, int n) {
        if (unknown(t)) return UNKNOWN;
        Body b = things.get(t);
        if (out(n, 2, 6) || !b.has(step)) return OUTSIDE;
        if (b.gone) return NOT;
        List<Body> parts = new ArrayList<>();
        for (int i = 0; i < n; i++) {
            Body part = new Body();
            part.doubt = b.doubt;
            for (int j = 0; b.has(step + j); j++) {
                int[] p = b.place[step + j];
                part.place[step + j] = new int[] {p[0] + j * (i - n / 2), p[1] + j * ((i % 2) * 2 - 1), p[2]};
                if (outPlace(part.place[step + j][0], part.place[step + j][1], part.place[step + j][2])) return NOT;
            }
            parts.add(part);
        }
        if (things.size() + n > 16) return FULL;
        b.gone = true;
        things.addAll(parts);
        return things.size() - n;
    }

    int rule(int what, int v) {
        int was = what == 0 ? near : wide;
        if (what == 0 && !out(v, 1, 3000)) near = v;
        else if (what == 1 && !out(v, 0, 400)) wide = v;
        else return OUTSIDE;
        return was;
    }

    int told(int t, int what) {
        if (unknown(t)) return UNKNOWN;
        if (out(what, 0, 4)) return OUTSIDE;
        Body b = things.get(t);
        return new int[] {b.first(), b.last() - b.first() + 1, b.doubt, b.gone ? 1 : 0, what == 4 ? meetsOf(t) : 0}[what];
    }

    int at(int t, int step, int what) {
        if (unknown(t)) return UNKNOWN;
        if (out(step, 0, 39) || out(what, 0, 2)) return OUTSIDE;
        return things.get(t).has(step) ? things.get(t).place[step][what] : NOT;
    }

    int count(int what) {
        switch (what) {
            case 0: return things.size();
            case 1: return (int) things.stream().filter(b -> !b.gone).count();
            case 2: return meetings().size();
            case 3: return dots.size();
            case 4: return (int) dots.stream().filter(d -> holders(d).size() == 1).count();
            case 5: return (int) dots.stream().filter(d -> holders(d).size() > 1).count();
            case 6: return (int) dots.stream().filter(d -> holders(d).isEmpty()).count();
            case 7: return notices.size();
            case 8: return (int) notices.stream().filter(n -> n[4] == 0).count();
            case 9: return late;
            default: return OUTSIDE;
        }
    }

    private static List<Integer> together(Body a, Body b) {
        List<Integer> steps = new ArrayList<>();
        for (int s = 0; s < 40; s++) {
            if (a.has(s) && b.has(s)) steps.add(s);
        }
        return steps;
    }

    /** The least square, the step and the part of the way; null if they are not together. */
    private static Object[] nearest(Body a, Body b) {
        Object[] found = null;
        for (int s : together(a, b)) {
            List<Ratio> parts = new ArrayList<>(List.of(Ratio.of(0)));
            if (a.has(s + 1) && b.has(s + 1)) {
                long dv = 0;
                long vv = 0;
                for (int x = 0; x < 3; x++) {
                    long d = a.place[s][x] - b.place[s][x];
                    long v = a.place[s + 1][x] - b.place[s + 1][x] - d;
                    dv += d * v;
                    vv += v * v;
                }
                if (dv < 0 && -dv < vv) parts.add(new Ratio(BigInteger.valueOf(-dv), BigInteger.valueOf(vv)));
            }
            for (Ratio p : parts) {
                Ratio square = squareAt(a, b, s, p);
                if (found == null || square.compareTo((Ratio) found[0]) < 0) found = new Object[] {square, s, p};
            }
        }
        return found;
    }

    private static Ratio squareAt(Body a, Body b, int s, Ratio p) {
        Ratio sum = Ratio.of(0);
        for (int x = 0; x < 3; x++) {
            long d = a.place[s][x] - b.place[s][x];
            Ratio gap = Ratio.of(d);
            if (p.up.signum() != 0) {
                gap = gap.plus(p.times(Ratio.of(a.place[s + 1][x] - b.place[s + 1][x] - d)));
            }
            sum = sum.plus(gap.times(gap));
        }
        return sum;
    }

    private boolean meets(Body a, Body b) {
        if (a.gone || b.gone) return false;
        Object[] found = nearest(a, b);
        return found != null && ((Ratio) found[0]).compareTo(Ratio.of((long) near * near)) < 0;
    }

    private int meetsOf(int t) {
        int n = 0;
        for (int u = 0; u < things.size(); u++) {
            if (u != t && meets(things.get(t), things.get(u))) n++;
        }
        return n;
    }

    private List<int[]> meetings() {
        List<int[]> pairs = new ArrayList<>();
        for (int t = 0; t < things.size(); t++) {
            for (int u = t + 1; u < things.size(); u++) {
                if (meets(things.get(t), things.get(u))) pairs.add(new int[] {t, u});
            }
        }
        return pairs;
    }

    int sieve(int t, int u) {
        if (unknown(t) || unknown(u)) return UNKNOWN;
        if (t == u) return NOT;
        Body a = things.get(t);
        Body b = things.get(u);
        List<Integer> steps = together(a, b);
        if (a.gone || b.gone || steps.isEmpty()) return 0;
        if (apart(a, b, steps)) return 1;
        if (steps.size() == 1) return 3;
        for (int i = 0; i + 1 < steps.size(); i++) {
            if (!apart(a, b, steps.subList(i, i + 2))) return 3;
        }
        return 2;
    }

    private boolean apart(Body a, Body b, List<Integer> steps) {
        for (int x = 0; x < 3; x++) {
            boolean aboveAll = true;
            boolean belowAll = true;
            for (int s : steps) {
                for (int r : steps) {
                    aboveAll &= a.place[s][x] - b.place[r][x] >= near;
                    belowAll &= b.place[s][x] - a.place[r][x] >= near;
                }
            }
            if (aboveAll || belowAll) return true;
        }
        return false;
    }

    long least(int t, int u, int what) {
        if (unknown(t) || unknown(u)) return UNKNOWN;
        if (out(what, 0, 4)) return OUTSIDE;
        if (t == u) return NOT;
        Object[] found = nearest(things.get(t), things.get(u));
        if (found == null) return NOT;
        Ratio square = (Ratio) found[0];
        Ratio part = (Ratio) found[2];
        return new long[] {square.up.longValueExact(), square.down.longValueExact(), (Integer) found[1],
            part.up.longValueExact(), part.down.longValueExact()}[what];
    }

    int meeting(int i, int what) {
        if (out(what, 0, 1)) return OUTSIDE;
        List<int[]> pairs = meetings();
        return i < 0 || i >= pairs.size() ? NONE : pairs.get(i)[what];
    }

    long share(int t, int u, int step, int what) {
        if (unknown(t) || unknown(u)) return UNKNOWN;
        if (out(step, 0, 39) || out(what, 0, 1)) return OUTSIDE;
        Body a = things.get(t);
        Body b = things.get(u);
        if (t == u || !a.has(step) || !b.has(step)) return NOT;
        BigInteger close = BigInteger.ONE;
        for (int x = 0; x < 3; x++) {
            long n = 0;
            for (int i = -a.doubt; i <= a.doubt; i++) {
                for (int j = -b.doubt; j <= b.doubt; j++) {
                    if (Math.abs(a.place[step][x] + i - b.place[step][x] - j) <= wide) n++;
                }
            }
            close = close.multiply(BigInteger.valueOf(n));
        }
        Ratio r = new Ratio(close, BigInteger.valueOf((2L * a.doubt + 1) * (2L * b.doubt + 1)).pow(3));
        return (what == 0 ? r.up : r.down).longValueExact();
    }

    /** The thing as it would be, or null if a place would be out of its bounds. */
    private static Body burned(Body b, int step, int[] push) {
        Body made = b.copy();
        for (int s = step + 1; b.has(s); s++) {
            for (int x = 0; x < 3; x++) {
                made.place[s][x] += (s - step) * push[x];
                if (out(made.place[s][x], -5000, 5000)) return null;
            }
        }
        return made;
    }

    private boolean free(int t, Body made) {
        if (made == null) return false;
        for (int u = 0; u < things.size(); u++) {
            if (u != t && meets(made, things.get(u))) return false;
        }
        return true;
    }

    private static int fuel(int[] p) {
        return Math.abs(p[0]) + Math.abs(p[1]) + Math.abs(p[2]);
    }

    int best(int t, int from, int what) {
        if (unknown(t)) return UNKNOWN;
        Body b = things.get(t);
        if (!b.has(from) || out(what, 0, 4)) return OUTSIDE;
        if (b.gone) return NOT;
        int[] found = null;
        for (int s = from; s < b.last(); s++) {
            for (int x = -2; x <= 2; x++) {
                for (int y = -2; y <= 2; y++) {
                    for (int z = -2; z <= 2; z++) {
                        int[] push = {x, y, z};
                        int[] it = {fuel(push), s, x, y, z};
                        // What is no better need not be tried.
                        if (it[0] > 0 && better(it, found) && free(t, burned(b, s, push))) found = it;
                    }
                }
            }
        }
        return found != null ? found[what] : what < 2 ? NONE : 0;
    }

    private static boolean better(int[] a, int[] b) {
        if (b == null || a[0] != b[0]) return b == null || a[0] < b[0];
        if (a[1] != b[1]) return a[1] > b[1];
        if (a[2] != b[2]) return a[2] < b[2];
        if (a[3] != b[3]) return a[3] < b[3];
        return a[4] < b[4];
    }

    int burn(int t, int step, int a, int b, int c) {
        if (unknown(t)) return UNKNOWN;
        Body it = things.get(t);
        if (!it.has(step) || out(a, -2, 2) || out(b, -2, 2) || out(c, -2, 2)) return OUTSIDE;
        if (a == 0 && b == 0 && c == 0) return OUTSIDE;
        Body made = burned(it, step, new int[] {a, b, c});
        if (it.gone || made == null) return NOT;
        things.set(t, made);
        return meetsOf(t);
    }

    int dot(int step, int x, int y, int z) {
        if (out(step, 0, 39) || outPlace(x, y, z)) return OUTSIDE;
        if (dots.size() == 40) return FULL;
        dots.add(new int[] {x, y, z, step});
        return dots.size() - 1;
    }

    private List<Integer> holders(int[] dot) {
        List<Integer> of = new ArrayList<>();
        for (int t = 0; t < things.size(); t++) {
            Body b = things.get(t);
            boolean in = !b.gone && b.has(dot[3]);
            for (int x = 0; in && x < 3; x++) {
                Set<Integer> cells = new HashSet<>();
                for (int i = -b.doubt; i <= b.doubt; i++) {
                    cells.add(b.place[dot[3]][x] + i);
                }
                in = cells.contains(dot[x]);
            }
            if (in) of.add(t);
        }
        return of;
    }

    int dotted(int d, int what) {
        if (d < 0 || d >= dots.size()) return UNKNOWN;
        if (out(what, 0, 1)) return OUTSIDE;
        List<Integer> of = holders(dots.get(d));
        return what == 0 ? of.size() : of.isEmpty() ? NONE : of.get(0);
    }

    int notice(int t, int u) {
        if (unknown(t) || unknown(u)) return UNKNOWN;
        if (t == u || !meets(things.get(t), things.get(u))) return NOT;
        if (notices.size() == 40) return FULL;
        Object[] found = nearest(things.get(t), things.get(u));
        Ratio square = (Ratio) found[0];
        int[] made = {Math.min(t, u), Math.max(t, u), square.up.divide(square.down).intValueExact(), (Integer) found[1],
            0, 0, 0, NONE};
        for (int n = 0; n < notices.size(); n++) {
            int[] old = notices.get(n);
            if (old[0] == made[0] && old[1] == made[1]) {
                old[4] = 1;
                made[7] = n;
            }
        }
        notices.add(made);
        return notices.size() - 1;
    }

    int answer(int n, int t, int what) {
        if (n < 0 || n >= notices.size() || unknown(t)) return UNKNOWN;
        if (out(what, 1, 2)) return OUTSIDE;
        int[] it = notices.get(n);
        if (it[0] != t && it[1] != t) return NOT;
        if (it[4] == 1) {
            late++;
            return 0;
        }
        it[it[0] == t ? 5 : 6] = what;
        return 1;
    }

    int noticed(int n, int what) {
        if (n < 0 || n >= notices.size()) return UNKNOWN;
        if (out(what, 0, 7)) return OUTSIDE;
        int v = notices.get(n)[what];
        return what == 4 ? 1 - v : v;
    }

    int keep(int s) {
        if (out(s, 0, 1)) return UNKNOWN;
        List<Body> copies = new ArrayList<>();
        for (Body b : things) {
            copies.add(b.copy());
        }
        shelves.set(s, copies);
        return copies.size();
    }

    int differs(int s) {
        if (out(s, 0, 1)) return UNKNOWN;
        List<Body> shelf = shelves.get(s);
        if (shelf.isEmpty()) return NOT;
        int n = 0;
        for (int t = 0; t < Math.max(shelf.size(), things.size()); t++) {
            boolean both = t < shelf.size() && t < things.size();
            if (!both || !shelf.get(t).text().equals(things.get(t).text())) n++;
        }
        return n;
    }
}
