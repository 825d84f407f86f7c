/**
 * Things on told paths, step by step: which of them come near each other and when, exactly; the
 * shares of their boxes of doubt that meet; burns that make no meeting; dots, notices, and
 * catalogues held against each other.
 *
 * <p>No call throws: what can't be done is answered by UNKNOWN, OUTSIDE, NOT or FULL, of several
 * the first in this order, and changes nothing. All is counted in whole numbers; the bounds of the
 * places keep every product below within a long.
 */
public final class MeetingsAbove {
    public static final int NONE = -1, UNKNOWN = -100001, OUTSIDE = -100002, NOT = -100003, FULL = -100004;

    private static final int MOST_THINGS = 16, MOST_PLACES = 12, MOST_DOTS = 40, MOST_NOTICES = 40;
    private static final int AXES = 3, LAST_STEP = 39, EDGE = 5000, MOST_DOUBT = 200;
    private static final int LEAST_PARTS = 2, MOST_PARTS = 6;
    private static final int LEAST_NEAR = 1, MOST_NEAR = 3000, FIRST_NEAR = 50;
    private static final int MOST_WIDE = 400, FIRST_WIDE = 20;
    private static final int MOST_PUSH = 2, MOST_FUEL = AXES * MOST_PUSH;
    private static final int PUSHES = 2 * MOST_PUSH + 1, BURNS = PUSHES * PUSHES * PUSHES;
    private static final int YES = 1, NO = 2;

    private final Catalogue now;
    private final Catalogue shelf0;
    private final Catalogue shelf1;
    private final Dot[] dots;
    private final Notice[] notices;
    private int dotCount;
    private int noticeCount;
    private int lateAnswers;
    private int near;
    private int wide;

    // Made once and used again by every call, so that asking makes no objects.
    private final Way way;
    private final Nearest nearest;
    private final Fraction shared;
    private final Thing trial;
    private final Burn chosen;
    private int lastMet;

    public MeetingsAbove() {
        now = new Catalogue();
        shelf0 = new Catalogue();
        shelf1 = new Catalogue();
        dots = new Dot[MOST_DOTS];
        notices = new Notice[MOST_NOTICES];
        near = FIRST_NEAR;
        wide = FIRST_WIDE;
        way = new Way();
        nearest = new Nearest();
        shared = new Fraction();
        trial = new Thing();
        chosen = new Burn();
    }

    // ---- things

    public int thing(int step, int x, int y, int z, int doubt) {
        if (!isStep(step) || !isPlace(x, y, z) || !isWithin(doubt, 0, MOST_DOUBT)) {
            return OUTSIDE;
        }
        int number = now.size;
        Thing it = now.next();
        if (it == null) {
            return FULL;
        }
        it.begin(step, doubt);
        it.append(x, y, z);
        return number;
    }

    public int place(int t, int x, int y, int z) {
        Thing it = now.find(t);
        if (it == null) {
            return UNKNOWN;
        }
        if (!isPlace(x, y, z)) {
            return OUTSIDE;
        }
        if (it.gone || it.lastStep() >= LAST_STEP) {
            return NOT;
        }
        return it.append(x, y, z) ? it.places : FULL;
    }

    public int gone(int t) {
        Thing it = now.find(t);
        if (it == null) {
            return UNKNOWN;
        }
        if (it.gone) {
            return NOT;
        }
        it.gone = true;
        return 1;
    }

    public int breaks(int t, int step, int n) {
        Thing whole = now.find(t);
        if (whole == null) {
            return UNKNOWN;
        }
        if (!isWithin(n, LEAST_PARTS, MOST_PARTS) || !whole.hasPlace(step)) {
            return OUTSIDE;
        }
        if (whole.gone || !partsStayInside(whole, step, n)) {
            return NOT;
        }
        if (now.size + n > MOST_THINGS) {
            return FULL;
        }
        int firstPart = now.size;
        for (int i = 0; i < n; i++) {
            addPart(whole, step, partDriftX(i, n), partDriftY(i));
        }
        whole.gone = true;
        return firstPart;
    }

    public int rule(int what, int v) {
        if (what == 0 && isWithin(v, LEAST_NEAR, MOST_NEAR)) {
            int was = near;
            near = v;
            return was;
        }
        if (what == 1 && isWithin(v, 0, MOST_WIDE)) {
            int was = wide;
            wide = v;
            return was;
        }
        return OUTSIDE;
    }

    public int told(int t, int what) {
        Thing it = now.find(t);
        if (it == null) {
            return UNKNOWN;
        }
        switch (what) {
            case 0: return it.first;
            case 1: return it.places;
            case 2: return it.doubt;
            case 3: return it.gone ? 1 : 0;
            case 4: return meetingsOf(t, it);
            default: return OUTSIDE;
        }
    }

    public int at(int t, int step, int what) {
        Thing it = now.find(t);
        if (it == null) {
            return UNKNOWN;
        }
        if (!isStep(step) || !isWithin(what, 0, AXES - 1)) {
            return OUTSIDE;
        }
        return it.hasPlace(step) ? it.coord(step, what) : NOT;
    }

    public int count(int what) {
        switch (what) {
            case 0: return now.size;
            case 1: return now.countThere();
            case 2: return countMeetings();
            case 3: return dotCount;
            case 4: return countDotsOf(1, 1);
            case 5: return countDotsOf(2, MOST_THINGS);
            case 6: return countDotsOf(0, 0);
            case 7: return noticeCount;
            case 8: return countHolding();
            case 9: return lateAnswers;
            default: return OUTSIDE;
        }
    }

    // ---- meetings

    public int sieve(int t, int u) {
        Thing one = now.find(t);
        Thing two = now.find(u);
        if (one == null || two == null) {
            return UNKNOWN;
        }
        if (t == u) {
            return NOT;
        }
        int from = firstTogether(one, two);
        int to = lastTogether(one, two);
        if (one.gone || two.gone || from > to) {
            return 0;
        }
        if (areApart(one, two, from, to)) {
            return 1;
        }
        return areApartOnEachWay(one, two, from, to) ? 2 : 3;
    }

    public long least(int t, int u, int what) {
        Thing one = now.find(t);
        Thing two = now.find(u);
        if (one == null || two == null) {
            return UNKNOWN;
        }
        if (!isWithin(what, 0, 4)) {
            return OUTSIDE;
        }
        if (t == u || !findNearest(one, two)) {
            return NOT;
        }
        switch (what) {
            case 0: return nearest.square.upper;
            case 1: return nearest.square.lower;
            case 2: return nearest.step;
            case 3: return nearest.part.upper;
            default: return nearest.part.lower;
        }
    }

    public int meeting(int i, int what) {
        if (!isWithin(what, 0, 1)) {
            return OUTSIDE;
        }
        int seen = 0;
        for (int t = 0; t < now.size; t++) {
            for (int u = t + 1; u < now.size; u++) {
                if (doMeet(t, u)) {
                    if (seen == i) {
                        return what == 0 ? t : u;
                    }
                    seen++;
                }
            }
        }
        return NONE;
    }

    public long share(int t, int u, int step, int what) {
        Thing one = now.find(t);
        Thing two = now.find(u);
        if (one == null || two == null) {
            return UNKNOWN;
        }
        if (!isStep(step) || !isWithin(what, 0, 1)) {
            return OUTSIDE;
        }
        if (t == u || !one.hasPlace(step) || !two.hasPlace(step)) {
            return NOT;
        }
        long close = 1;
        long all = 1;
        for (int axis = 0; axis < AXES; axis++) {
            close *= closePairs(one, two, step, axis);
            all *= (long) one.boxSide() * two.boxSide();
        }
        shared.become(close, all);
        return what == 0 ? shared.upper : shared.lower;
    }

    // ---- burns

    public int best(int t, int from, int what) {
        Thing it = now.find(t);
        if (it == null) {
            return UNKNOWN;
        }
        if (!it.hasPlace(from) || !isWithin(what, 0, 4)) {
            return OUTSIDE;
        }
        if (it.gone) {
            return NOT;
        }
        chooseBurn(t, it, from);
        switch (what) {
            case 0: return chosen.fuel;
            case 1: return chosen.step;
            case 2: return chosen.a;
            case 3: return chosen.b;
            default: return chosen.c;
        }
    }

    public int burn(int t, int step, int a, int b, int c) {
        Thing it = now.find(t);
        if (it == null) {
            return UNKNOWN;
        }
        if (!it.hasPlace(step) || !isBurn(a, b, c)) {
            return OUTSIDE;
        }
        if (it.gone || !it.staysInside(step, a, b, c)) {
            return NOT;
        }
        it.drift(step, a, b, c);
        return meetingsOf(t, it);
    }

    // ---- dots, notices

    public int dot(int step, int x, int y, int z) {
        if (!isStep(step) || !isPlace(x, y, z)) {
            return OUTSIDE;
        }
        int number = dotCount;
        if (number < 0 || number >= dots.length) {
            return FULL;
        }
        dots[number] = new Dot(step, x, y, z);
        dotCount++;
        return number;
    }

    public int dotted(int d, int what) {
        Dot seen = findDot(d);
        if (seen == null) {
            return UNKNOWN;
        }
        switch (what) {
            case 0: return now.countHolders(seen);
            case 1: return now.firstHolder(seen);
            default: return OUTSIDE;
        }
    }

    public int notice(int t, int u) {
        Thing one = now.find(t);
        Thing two = now.find(u);
        if (one == null || two == null) {
            return UNKNOWN;
        }
        if (t == u || !doMeet(t, u) || !findNearest(one, two)) {
            return NOT;
        }
        int number = noticeCount;
        if (number < 0 || number >= notices.length) {
            return FULL;
        }
        Notice fresh = new Notice(Math.min(t, u), Math.max(t, u), nearest);
        fresh.ahead = lastNoticeOf(fresh.lesser, fresh.greater);
        Notice ahead = findNotice(fresh.ahead);
        if (ahead != null) {
            ahead.holds = false;
        }
        notices[number] = fresh;
        noticeCount++;
        return number;
    }

    public int answer(int n, int t, int what) {
        Notice it = findNotice(n);
        if (it == null || now.find(t) == null) {
            return UNKNOWN;
        }
        if (what != YES && what != NO) {
            return OUTSIDE;
        }
        if (t != it.lesser && t != it.greater) {
            return NOT;
        }
        if (!it.holds) {
            lateAnswers++;
            return 0;
        }
        if (t == it.lesser) {
            it.answerOfLesser = what;
        } else {
            it.answerOfGreater = what;
        }
        return 1;
    }

    public int noticed(int n, int what) {
        Notice it = findNotice(n);
        if (it == null) {
            return UNKNOWN;
        }
        switch (what) {
            case 0: return it.lesser;
            case 1: return it.greater;
            case 2: return it.square;
            case 3: return it.step;
            case 4: return it.holds ? 1 : 0;
            case 5: return it.answerOfLesser;
            case 6: return it.answerOfGreater;
            case 7: return it.ahead;
            default: return OUTSIDE;
        }
    }

    // ---- catalogues

    public int keep(int s) {
        Catalogue shelf = findShelf(s);
        if (shelf == null) {
            return UNKNOWN;
        }
        shelf.copyFrom(now);
        return shelf.size;
    }

    public int differs(int s) {
        Catalogue shelf = findShelf(s);
        if (shelf == null) {
            return UNKNOWN;
        }
        // A shelf that was kept when there were no things has nothing on it: it is still empty.
        return shelf.size == 0 ? NOT : now.countDifferences(shelf);
    }

    // ---- bounds

    private static boolean isWithin(int v, int low, int high) {
        return v >= low && v <= high;
    }

    private static boolean isStep(int step) {
        return isWithin(step, 0, LAST_STEP);
    }

    private static boolean isPlace(int x, int y, int z) {
        return isWithin(x, -EDGE, EDGE) && isWithin(y, -EDGE, EDGE) && isWithin(z, -EDGE, EDGE);
    }

    private static boolean isBurn(int a, int b, int c) {
        return isWithin(a, -MOST_PUSH, MOST_PUSH)
            && isWithin(b, -MOST_PUSH, MOST_PUSH)
            && isWithin(c, -MOST_PUSH, MOST_PUSH)
            && fuelOf(a, b, c) > 0;
    }

    // ---- break-ups

    private static int partDriftX(int i, int n) {
        return i - n / 2;
    }

    private static int partDriftY(int i) {
        return i % 2 * 2 - 1;
    }

    private static boolean partsStayInside(Thing whole, int step, int n) {
        for (int i = 0; i < n; i++) {
            if (!whole.staysInside(step, partDriftX(i, n), partDriftY(i), 0)) {
                return false;
            }
        }
        return true;
    }

    private void addPart(Thing whole, int step, int driftX, int driftY) {
        Thing part = now.next();
        if (part != null) {
            part.copyFrom(whole, step);
            part.drift(step, driftX, driftY, 0);
        }
    }

    // ---- two things

    private static int firstTogether(Thing one, Thing two) {
        return Math.max(one.first, two.first);
    }

    private static int lastTogether(Thing one, Thing two) {
        return Math.min(one.lastStep(), two.lastStep());
    }

    private boolean areApart(Thing one, Thing two, int from, int to) {
        for (int axis = 0; axis < AXES; axis++) {
            if (one.lowest(from, to, axis) - two.highest(from, to, axis) >= near
                || two.lowest(from, to, axis) - one.highest(from, to, axis) >= near) {
                return true;
            }
        }
        return false;
    }

    private boolean areApartOnEachWay(Thing one, Thing two, int from, int to) {
        if (from == to) {
            return areApart(one, two, from, to);
        }
        for (int step = from; step < to; step++) {
            if (!areApart(one, two, step, step + 1)) {
                return false;
            }
        }
        return true;
    }

    /** Whether the two are together at all; what is found is left in nearest. */
    private boolean findNearest(Thing one, Thing two) {
        int from = firstTogether(one, two);
        int to = lastTogether(one, two);
        for (int step = from; step <= to; step++) {
            way.look(one, two, step, step < to);
            // Only what is truly less is taken, so that the first time of the least one stays.
            if (step == from || nearest.square.isAbove(way.upper, way.lower)) {
                nearest.take(way, step);
            }
        }
        return from <= to;
    }

    /** Whether two paths come nearer than NEAR, in what they share of the steps low to high. */
    private boolean comeNear(Thing one, Thing two, int low, int high) {
        long limit = (long) near * near;
        int from = Math.max(low, firstTogether(one, two));
        int to = Math.min(high, lastTogether(one, two));
        for (int step = from; step <= to; step++) {
            way.look(one, two, step, step < to);
            if (way.upper < limit * way.lower) {
                return true;
            }
        }
        return false;
    }

    private boolean doMeet(int t, int u) {
        Thing one = now.find(t);
        Thing two = now.find(u);
        if (one == null || two == null || one.gone || two.gone) {
            return false;
        }
        return comeNear(one, two, 0, LAST_STEP);
    }

    private int countMeetings() {
        int all = 0;
        for (int t = 0; t < now.size; t++) {
            for (int u = t + 1; u < now.size; u++) {
                if (doMeet(t, u)) {
                    all++;
                }
            }
        }
        return all;
    }

    private int meetingsOf(int t, Thing it) {
        int all = 0;
        for (int u = 0; u < now.size; u++) {
            Thing other = now.find(u);
            if (isOtherThere(t, u, other) && !it.gone && comeNear(it, other, 0, LAST_STEP)) {
                all++;
            }
        }
        return all;
    }

    private static boolean isOtherThere(int t, int u, Thing other) {
        return t != u && other != null && !other.gone;
    }

    /** Along one axis alone: of all pairs of cells, how many are at most WIDE apart. */
    private long closePairs(Thing one, Thing two, int step, int axis) {
        int middle = one.coord(step, axis);
        int low = two.coord(step, axis) - two.doubt;
        int high = two.coord(step, axis) + two.doubt;
        long pairs = 0;
        for (int cell = middle - one.doubt; cell <= middle + one.doubt; cell++) {
            pairs += Math.max(0, Math.min(high, cell + wide) - Math.max(low, cell - wide) + 1);
        }
        return pairs;
    }

    // ---- the choice of a burn

    private static int fuelOf(int a, int b, int c) {
        return Math.abs(a) + Math.abs(b) + Math.abs(c);
    }

    /** Goes through the burns in the order of preference: the first free one is the best. */
    private void chooseBurn(int t, Thing it, int from) {
        int latest = Math.min(it.lastStep() - 1, lastClearStep(t, it));
        for (int fuel = 1; fuel <= MOST_FUEL; fuel++) {
            for (int step = latest; step >= from; step--) {
                for (int number = 0; number < BURNS; number++) {
                    chosen.become(step, number);
                    if (chosen.fuel == fuel && isFree(t, it, chosen)) {
                        return;
                    }
                }
            }
        }
        chosen.becomeNone();
    }

    /** A burn leaves the path up to its step as it is: one behind a meeting can't be free. */
    private int lastClearStep(int t, Thing it) {
        int clear = it.first - 1;
        for (int step = it.first; step <= it.lastStep(); step++) {
            if (meetsAny(t, it, step - 1, step)) {
                return clear;
            }
            clear = step;
        }
        return clear;
    }

    /** Only for a thing that meets none up to the burn's step: what comes behind is tried alone. */
    private boolean isFree(int t, Thing it, Burn by) {
        if (!it.staysInside(by.step, by.a, by.b, by.c)) {
            return false;
        }
        trial.copyFrom(it, it.first);
        trial.drift(by.step, by.a, by.b, by.c);
        return !meetsAny(t, trial, by.step, LAST_STEP);
    }

    /** Whether thing t, if it had this path, met any other between the steps low and high. */
    private boolean meetsAny(int t, Thing path, int low, int high) {
        // The one that was met last goes first: it mostly stands in the way of the next burn too.
        for (int i = -1; i < now.size; i++) {
            int u = i < 0 ? lastMet : i;
            Thing other = now.find(u);
            if (isOtherThere(t, u, other) && comeNear(path, other, low, high)) {
                lastMet = u;
                return true;
            }
        }
        return false;
    }

    // ---- what is kept in rows

    private Dot findDot(int d) {
        return d >= 0 && d < dotCount && d < dots.length ? dots[d] : null;
    }

    private int countDotsOf(int fewest, int most) {
        int all = 0;
        for (int d = 0; d < dotCount; d++) {
            Dot seen = findDot(d);
            if (seen != null && isWithin(now.countHolders(seen), fewest, most)) {
                all++;
            }
        }
        return all;
    }

    private Notice findNotice(int n) {
        return n >= 0 && n < noticeCount && n < notices.length ? notices[n] : null;
    }

    private int lastNoticeOf(int lesser, int greater) {
        for (int n = noticeCount - 1; n >= 0; n--) {
            Notice it = findNotice(n);
            if (it != null && it.lesser == lesser && it.greater == greater) {
                return n;
            }
        }
        return NONE;
    }

    private int countHolding() {
        int all = 0;
        for (int n = 0; n < noticeCount; n++) {
            Notice it = findNotice(n);
            if (it != null && it.holds) {
                all++;
            }
        }
        return all;
    }

    private Catalogue findShelf(int s) {
        switch (s) {
            case 0: return shelf0;
            case 1: return shelf1;
            default: return null;
        }
    }

    /** A path: its places from the first step on, three numbers each, and what is told of it. */
    private static final class Thing {
        final int[] coords = new int[MOST_PLACES * AXES];
        int first;
        int places;
        int doubt;
        boolean gone;

        void begin(int step, int itsDoubt) {
            first = step;
            places = 0;
            doubt = itsDoubt;
            gone = false;
        }

        boolean append(int x, int y, int z) {
            int i = AXES * places;
            if (i < 0 || i > coords.length - AXES) {
                return false;
            }
            coords[i] = x;
            coords[i + 1] = y;
            coords[i + 2] = z;
            places++;
            return true;
        }

        int lastStep() {
            return first + places - 1;
        }

        boolean hasPlace(int step) {
            return step >= first && step <= lastStep();
        }

        int coord(int step, int axis) {
            int i = AXES * (step - first) + axis;
            return i >= 0 && i < coords.length ? coords[i] : 0;
        }

        private void move(int step, int axis, int by) {
            int i = AXES * (step - first) + axis;
            if (i >= 0 && i < coords.length) {
                coords[i] += by;
            }
        }

        int lowest(int from, int to, int axis) {
            int low = coord(from, axis);
            for (int step = from; step <= to; step++) {
                low = Math.min(low, coord(step, axis));
            }
            return low;
        }

        int highest(int from, int to, int axis) {
            int high = coord(from, axis);
            for (int step = from; step <= to; step++) {
                high = Math.max(high, coord(step, axis));
            }
            return high;
        }

        int boxSide() {
            return 2 * doubt + 1;
        }

        boolean isBoxed(Dot seen) {
            return hasPlace(seen.step)
                && Math.abs(coord(seen.step, 0) - seen.x) <= doubt
                && Math.abs(coord(seen.step, 1) - seen.y) <= doubt
                && Math.abs(coord(seen.step, 2) - seen.z) <= doubt;
        }

        /** Moves the places behind a step: i steps behind it by i times a, b, c. */
        void drift(int step, int a, int b, int c) {
            for (int later = step + 1; later <= lastStep(); later++) {
                int i = later - step;
                move(later, 0, i * a);
                move(later, 1, i * b);
                move(later, 2, i * c);
            }
        }

        boolean staysInside(int step, int a, int b, int c) {
            for (int later = step + 1; later <= lastStep(); later++) {
                int i = later - step;
                if (!isPlace(coord(later, 0) + i * a, coord(later, 1) + i * b, coord(later, 2) + i * c)) {
                    return false;
                }
            }
            return true;
        }

        /** Becomes the other thing as it is from a step on. */
        void copyFrom(Thing other, int step) {
            begin(step, other.doubt);
            gone = other.gone;
            for (int k = step; k <= other.lastStep(); k++) {
                append(other.coord(k, 0), other.coord(k, 1), other.coord(k, 2));
            }
        }

        boolean isSame(Thing other) {
            if (first != other.first || places != other.places || doubt != other.doubt || gone != other.gone) {
                return false;
            }
            for (int i = 0; i < AXES * places && i < coords.length && i < other.coords.length; i++) {
                if (coords[i] != other.coords[i]) {
                    return false;
                }
            }
            return true;
        }
    }

    /** Things by their numbers: those of now, or those on a shelf. */
    private static final class Catalogue {
        final Thing[] all = new Thing[MOST_THINGS];
        int size;

        Thing find(int t) {
            return t >= 0 && t < size && t < all.length ? all[t] : null;
        }

        /** One more thing, still to be filled, or null if there is no room. */
        Thing next() {
            if (size < 0 || size >= all.length) {
                return null;
            }
            // A shelf that is kept again uses the things that it had before.
            if (all[size] == null) {
                all[size] = new Thing();
            }
            Thing it = all[size];
            size++;
            return it;
        }

        void copyFrom(Catalogue other) {
            size = 0;
            for (int t = 0; t < other.size; t++) {
                Thing theirs = other.find(t);
                Thing mine = next();
                if (theirs != null && mine != null) {
                    mine.copyFrom(theirs, theirs.first);
                }
            }
        }

        int countThere() {
            int there = 0;
            for (int t = 0; t < size; t++) {
                Thing it = find(t);
                if (it != null && !it.gone) {
                    there++;
                }
            }
            return there;
        }

        int countDifferences(Catalogue other) {
            int different = 0;
            for (int t = 0; t < size || t < other.size; t++) {
                Thing mine = find(t);
                Thing theirs = other.find(t);
                if (mine == null || theirs == null || !mine.isSame(theirs)) {
                    different++;
                }
            }
            return different;
        }

        private boolean isHolder(int t, Dot seen) {
            Thing it = find(t);
            return it != null && !it.gone && it.isBoxed(seen);
        }

        int countHolders(Dot seen) {
            int holders = 0;
            for (int t = 0; t < size; t++) {
                if (isHolder(t, seen)) {
                    holders++;
                }
            }
            return holders;
        }

        int firstHolder(Dot seen) {
            for (int t = 0; t < size; t++) {
                if (isHolder(t, seen)) {
                    return t;
                }
            }
            return NONE;
        }
    }

    /**
     * The way of two things from a step to the next one, but for its far end, which is the next
     * way's start: the least square of their distance, and the part of the way at which it is so.
     */
    private static final class Way {
        long upper;
        long lower;
        long partUpper;

        /** Where the two don't go on together, only the step itself is looked at. */
        void look(Thing one, Thing two, int step, boolean goesOn) {
            long start = 0;
            long turn = 0;
            long change = 0;
            for (int axis = 0; axis < AXES; axis++) {
                long gap = one.coord(step, axis) - two.coord(step, axis);
                long shift = goesOn ? one.coord(step + 1, axis) - two.coord(step + 1, axis) - gap : 0;
                start += gap * gap;
                turn += gap * shift;
                change += shift * shift;
            }
            // At part p of the way the square is start + 2 p turn + p p change.
            boolean isLeastWithin = turn < 0 && turn + change > 0;
            upper = isLeastWithin ? start * change - turn * turn : start;
            lower = isLeastWithin ? change : 1;
            partUpper = isLeastWithin ? -turn : 0;
        }
    }

    /** The least square of a distance, and when: a step and a part of the way to the next one. */
    private static final class Nearest {
        final Fraction square = new Fraction();
        final Fraction part = new Fraction();
        int step;

        void take(Way way, int itsStep) {
            square.become(way.upper, way.lower);
            part.become(way.partUpper, way.lower);
            step = itsStep;
        }
    }

    /** A fraction that is not below 0, in least terms. */
    private static final class Fraction {
        /** Far more than the steps that two longs can need. */
        private static final int DIVISIONS = 200;

        long upper = 0;
        long lower = 1;

        void become(long itsUpper, long itsLower) {
            long common = commonDivisor(itsUpper, itsLower);
            upper = common > 0 ? itsUpper / common : itsUpper;
            lower = common > 0 ? itsLower / common : itsLower;
        }

        /** The whole parts go first: the products of the two fractions' ends could leave a long. */
        boolean isAbove(long otherUpper, long otherLower) {
            if (lower <= 0 || otherLower <= 0) {
                return false;
            }
            long whole = upper / lower;
            long otherWhole = otherUpper / otherLower;
            if (whole != otherWhole) {
                return whole > otherWhole;
            }
            return upper % lower * otherLower > otherUpper % otherLower * lower;
        }

        int cut() {
            return lower > 0 ? (int) (upper / lower) : 0;
        }

        private static long commonDivisor(long a, long b) {
            long x = a;
            long y = b;
            for (int i = 0; i < DIVISIONS && y != 0; i++) {
                long rest = x % y;
                x = y;
                y = rest;
            }
            return x;
        }
    }

    /** A burn, or what is answered when there is none. */
    private static final class Burn {
        int fuel;
        int step;
        int a;
        int b;
        int c;

        /** The burns of a step, numbered by a, then b, then c. */
        void become(int itsStep, int number) {
            step = itsStep;
            a = number / (PUSHES * PUSHES) - MOST_PUSH;
            b = number / PUSHES % PUSHES - MOST_PUSH;
            c = number % PUSHES - MOST_PUSH;
            fuel = fuelOf(a, b, c);
        }

        void becomeNone() {
            step = NONE;
            a = 0;
            b = 0;
            c = 0;
            fuel = NONE;
        }
    }

    private static final class Dot {
        final int step;
        final int x;
        final int y;
        final int z;

        Dot(int itsStep, int itsX, int itsY, int itsZ) {
            step = itsStep;
            x = itsX;
            y = itsY;
            z = itsZ;
        }
    }

    /** What was told of a meeting: it stays as it was, whatever the two things do later. */
    private static final class Notice {
        final int lesser;
        final int greater;
        final int square;
        final int step;
        int ahead;
        int answerOfLesser;
        int answerOfGreater;
        boolean holds;

        Notice(int itsLesser, int itsGreater, Nearest found) {
            lesser = itsLesser;
            greater = itsGreater;
            square = found.square.cut();
            step = found.step;
            ahead = NONE;
            holds = true;
        }
    }
}
