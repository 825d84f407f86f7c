/** The sentences of 'Terms' on refusals, for every call. */
final class RefusalsEdges {
    private static final int UNKNOWN = MeetingsAbove.UNKNOWN, OUTSIDE = MeetingsAbove.OUTSIDE;
    private static final int NOT = MeetingsAbove.NOT, FULL = MeetingsAbove.FULL;

    /**
     * Of each kind some: two things that meet (0, 1), one that is gone (2), one at the last step (3), one at the edge
     * (4), one with twelve places (5); a dot of one, of several, of none; two notices, of which the first is superseded
     * and has an answer, and a late answer; a shelf that differs and one that is empty.
     */
    private static final String MIXED = "rule(0, 60) rule(1, 30) "
        + "thing(3, 0, 0, 0, 5) place(0, 10, 0, 0) place(0, 20, 0, 0) "
        + "thing(3, 0, 8, 0, 7) place(1, 10, 8, 0) place(1, 20, 8, 0) "
        + "thing(4, 1000, 0, 0, 0) gone(2) thing(39, 5000, -5000, 5000, 200) "
        + "thing(0, 4999, 4999, 0, 3) place(4, -5000, 5000, 0) thing(10, 0, 0, -900, 1) "
        + "place(5, 0, 0, -900) place(5, 0, 0, -901) place(5, 0, 0, -902) place(5, 0, 0, -903) place(5, 0, 0, -904) "
        + "place(5, 0, 0, -905) place(5, 0, 0, -906) place(5, 0, 0, -907) place(5, 0, 0, -908) place(5, 0, 0, -909) "
        + "place(5, 0, 0, -910) "
        + "keep(0) dot(3, 0, 0, 0) dot(3, 0, 4, 0) dot(0, 0, 0, 0) "
        + "notice(0, 1) answer(0, 0, 1) notice(1, 0) answer(1, 1, 2) answer(0, 1, 2) burn(1, 3, 0, 1, 0) ";

    private RefusalsEdges() {
    }

    static void all() {
        Edge.in("Terms");
        Edge.sentence("UNKNOWN (a THING, DOT, NOTICE, SHELF that there is not)", RefusalsEdges::unknown);
        Edge.sentence("OUTSIDE (another number out of its bounds)", RefusalsEdges::outside);
        Edge.sentence("NOT (not now, as told)", RefusalsEdges::not);
        Edge.sentence(", FULL.", RefusalsEdges::full);
        Edge.sentence("REFUSALS, of several the first in this order: UNKNOWN", RefusalsEdges::unknownGoesFirst);
        Edge.sentence("OUTSIDE (another number out of its bounds), NOT", RefusalsEdges::outsideGoesAheadOfNot);
        Edge.sentence("NOT (not now, as told), FULL", RefusalsEdges::fullGoesLast);
        Edge.sentence("What is refused changes nothing.", RefusalsEdges::changesNothing);
    }

    /** The number in question stands for a thing, dot, notice or shelf that there is not. */
    private static void unknown() {
        String[] ofThings = {"place(?, 0, 0, 0)", "gone(?)", "breaks(?, 3, 2)", "told(?, 0)", "at(?, 3, 0)",
            "sieve(?, 0)", "sieve(0, ?)", "least(?, 0, 0)", "least(0, ?, 0)", "share(?, 0, 3, 0)", "share(0, ?, 3, 0)",
            "best(?, 3, 0)", "burn(?, 3, 1, 0, 0)", "notice(?, 0)", "notice(0, ?)", "answer(1, ?, 1)"};
        refusesEach(ofThings, "-1", "6", "16", "MIN", "MAX");
        refusesEach(new String[] {"dotted(?, 0)"}, "-1", "3", "40", "MIN", "MAX");
        refusesEach(new String[] {"answer(?, 0, 1)", "noticed(?, 0)"}, "-1", "2", "40", "MIN", "MAX");
        refusesEach(new String[] {"keep(?)", "differs(?)"}, "-1", "2", "MIN", "MAX");
        Run r = new Run("");
        r.refuses(UNKNOWN, String.join(" ", ofThings).replace('?', '0'));
        r.refuses(UNKNOWN, "dotted(0, 0) answer(0, 0, 1) noticed(0, 0)");
        new Run(MIXED).due("told(0, 3) told(5, 3) dotted(0, 0) dotted(2, 0) noticed(0, 4) noticed(1, 4)", 0, 0, 1, 0, 0, 1);
    }

    private static void refusesEach(String[] calls, String... numbers) {
        for (String number : numbers) {
            new Run(MIXED).refuses(UNKNOWN, String.join(" ", calls).replace("?", number));
        }
    }

    /** The farthest numbers that there are; the nearest ones stand with each bound. */
    private static void outside() {
        for (String far : new String[] {"MIN", "MAX", "-2147483647", "2147483646", "65536", "-65536"}) {
            new Run(MIXED).refuses(OUTSIDE, ("thing(?, 0, 0, 0, 0) thing(0, ?, 0, 0, 0) thing(0, 0, ?, 0, 0) "
                + "thing(0, 0, 0, ?, 0) thing(0, 0, 0, 0, ?) place(0, ?, 0, 0) place(0, 0, ?, 0) place(0, 0, 0, ?) "
                + "breaks(0, ?, 2) breaks(0, 3, ?) rule(?, 1) rule(0, ?) rule(1, ?) told(0, ?) at(0, ?, 0) at(0, 3, ?) "
                + "count(?) least(0, 1, ?) meeting(0, ?) share(0, 1, ?, 0) share(0, 1, 3, ?) best(0, ?, 0) best(0, 3, ?) "
                + "burn(0, ?, 1, 0, 0) burn(0, 3, ?, 0, 0) burn(0, 3, 0, ?, 0) burn(0, 3, 0, 0, ?) burn(0, 3, ?, ?, ?) "
                + "dot(?, 0, 0, 0) dot(0, ?, 0, 0) dot(0, 0, ?, 0) dot(0, 0, 0, ?) dotted(0, ?) answer(1, 0, ?) "
                + "noticed(0, ?)").replace("?", far));
        }
    }

    private static void not() {
        new Run(MIXED).refuses(NOT, "place(2, 0, 0, 0) place(3, 0, 0, 0) gone(2) breaks(2, 4, 2) breaks(4, 0, 2) at(0, 2, 0) "
            + "at(0, 6, 2) sieve(0, 0) least(0, 0, 0) least(0, 5, 0) share(0, 0, 3, 0) share(0, 5, 3, 0) share(0, 5, 10, 0) "
            + "best(2, 4, 0) burn(2, 4, 1, 0, 0) burn(4, 0, -1, 0, 0) notice(0, 0) notice(0, 5) answer(1, 2, 1) "
            + "answer(0, 2, 1) differs(1)");
    }

    private static void full() {
        new Run(MIXED).refuses(FULL, "place(5, 0, 0, 0)");
        fullOfAll().refuses(FULL, "thing(0, 0, 0, 0, 0) place(0, 0, 0, 0) breaks(0, 0, 2) dot(0, 0, 0, 0) notice(0, 3)");
    }

    /** Sixteen things, of which 0 has twelve places, 1 is gone, 2 is at the edge; forty dots; forty notices. */
    private static Run fullOfAll() {
        Run r = new Run("").does(16, "thing(0, 0, 0, 0, 0)").does(11, "place(0, 0, 0, 0)");
        return r.does(40, "dot(0, 0, 0, 0) notice(0, 3)").does("gone(1) place(2, -5000, 5000, 0)");
    }

    private static void unknownGoesFirst() {
        new Run(MIXED).refuses(UNKNOWN, "place(6, 5001, 0, 0) breaks(6, 40, 2) breaks(6, 3, 7) told(6, 5) at(6, 40, 0) "
            + "at(6, 3, 3) sieve(6, 6) sieve(-1, -1) least(6, 0, 5) least(0, 6, 5) least(6, 6, 0) share(6, 0, 40, 0) "
            + "share(0, 6, 3, 2) share(6, 6, 3, 0) best(6, 40, 0) best(6, 3, 5) burn(6, 40, 1, 0, 0) burn(6, 3, 0, 0, 0) "
            + "burn(6, 3, 3, 0, 0) dotted(3, 2) notice(6, 6) answer(2, 0, 3) answer(2, 2, 1) answer(0, 6, 3) "
            + "answer(0, 6, 1) answer(2, 6, 0) noticed(2, 8) sieve(2, 6) least(2, 6, 0) notice(2, 6) notice(6, 2)");
        fullOfAll().refuses(UNKNOWN, "place(16, 0, 0, 0) breaks(16, 0, 2) notice(0, 16) notice(16, 0) notice(16, 16)");
    }

    private static void outsideGoesAheadOfNot() {
        new Run(MIXED).refuses(OUTSIDE, "place(2, 5001, 0, 0) place(3, 0, 0, -5001) breaks(2, 4, 1) breaks(2, 4, 7) "
            + "breaks(2, 3, 2) breaks(2, 5, 2) breaks(4, 0, 7) breaks(4, 0, 1) at(0, 2, 3) at(0, 2, -1) least(0, 0, 5) "
            + "least(0, 5, -1) share(0, 0, 40, 0) share(0, 0, 3, 2) share(0, 5, 3, 2) share(0, 5, -1, 0) best(2, 3, 0) "
            + "best(2, 5, 0) best(2, 4, 5) burn(2, 3, 1, 0, 0) burn(2, 5, 1, 0, 0) burn(2, 4, 0, 0, 0) "
            + "burn(2, 4, 3, 0, 0) burn(4, 0, -3, 0, 0) burn(4, 2, -1, 0, 0) answer(1, 2, 0) answer(1, 2, 3) "
            + "meeting(99, 2) meeting(-1, -1)");
        fullOfAll().refuses(OUTSIDE, "thing(40, 0, 0, 0, 0) thing(0, 0, 0, 0, 201) place(0, 5001, 0, 0) breaks(0, 12, 2) "
            + "breaks(0, 0, 7) breaks(1, 0, 7) breaks(2, 2, 2) dot(40, 0, 0, 0) dot(0, 5001, 0, 0)");
    }

    private static void fullGoesLast() {
        fullOfAll().refuses(NOT, "breaks(1, 0, 2) breaks(2, 0, 2) notice(0, 0) notice(0, 1) notice(1, 3)");
        new Run("thing(0, 0, 0, 0, 0)").does(11, "place(0, 0, 0, 0)").does("gone(0)").refuses(NOT, "place(0, 0, 0, 0)");
        new Run("thing(28, 0, 0, 0, 0)").does(11, "place(0, 0, 0, 0)").refuses(NOT, "place(0, 0, 0, 0)");
    }

    /** Refused calls in a row, and what comes then has the number and the answer that it would have had. */
    private static void changesNothing() {
        Run r = new Run(MIXED);
        r.refuses(OUTSIDE, "thing(0, 0, 0, 0, 201) dot(40, 0, 0, 0) rule(0, 0) rule(1, 401) burn(0, 3, 0, 0, 0)");
        r.refuses(NOT, "notice(0, 5) gone(2) burn(4, 0, -1, 0, 0) breaks(4, 0, 2) answer(0, 2, 1)");
        r.refuses(FULL, "place(5, 0, 0, 0)").refuses(UNKNOWN, "keep(2) gone(6) answer(0, 6, 1)");
        r.due("thing(0, 0, 0, 0, 0) dot(0, 0, 0, 0) notice(0, 1)", 6, 3, 2).due("noticed(2, 7) count(9)", 1, 1);
        r.due("rule(0, 1) rule(1, 0)", 60, 30).due("told(5, 1) told(4, 3) told(2, 3)", 12, 0, 1);
        r.dueAll("at(0, 5, *)", 20, 0, 0).dueAll("at(4, 1, *)", -5000, 5000, 0).due("differs(0) differs(1)", 2, NOT);
    }
}
