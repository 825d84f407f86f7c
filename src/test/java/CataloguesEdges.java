/** The boundary cases that promises 21 and 22 name. */
final class CataloguesEdges {
    private static final int UNKNOWN = MeetingsAbove.UNKNOWN, NOT = MeetingsAbove.NOT;
    private static final String TWO = "thing(5, 1, 2, 3, 4) place(0, 4, 5, 6) thing(0, 0, 0, 0, 0) gone(1) ";

    private CataloguesEdges() {
    }

    static void all() {
        keep();
        differs();
    }

    private static void keep() {
        Edge.in("Promise 21: keep");
        Edge.sentence("SHELF s (0, 1) gets all THINGS as they are: how many.", CataloguesEdges::keepAll);
        Edge.sentence("UNKNOWN.", () -> {
            new Run("").refuses(UNKNOWN, "keep(-1) keep(2)");
            new Run(TWO + "keep(0)").refuses(UNKNOWN, "keep(-1) keep(2)").due("keep(0) keep(1)", 2, 2);
        });
    }

    private static void keepAll() {
        new Run("").due("keep(0) keep(1)", 0, 0);
        new Run(TWO).due("keep(0) differs(0) keep(1) differs(1)", 2, 0, 2, 0);
        new Run("").does(16, "thing(28, 1, 2, 3, 200)").does(11, "place(15, 5000, 5000, 5000)")
            .due("keep(1) differs(1) gone(15) differs(1)", 16, 0, 1, 1).due("keep(1) differs(1)", 16, 0);
        // What a shelf got before is no more on it, and what it got stays as it was.
        Run r = new Run(TWO + "keep(0)").does("burn(0, 5, 1, 0, 0)").due("differs(0)", 1).due("keep(1) differs(1)", 2, 0);
        r.does("burn(0, 5, -1, 0, 0)").due("differs(0) differs(1)", 0, 1).due("keep(1) differs(1) differs(0)", 2, 0, 0);
    }

    private static void differs() {
        Edge.in("Promise 22: differs");
        Edge.sentence("by numbers, in a PLACE, FIRST STEP, how many PLACES, DOUBT or GONE", CataloguesEdges::differsEach);
        Edge.sentence("those that only one of both has", CataloguesEdges::differsInNumber);
        Edge.sentence("UNKNOWN", () -> {
            new Run("").refuses(UNKNOWN, "differs(-1) differs(2)");
            new Run(TWO + "keep(0) keep(1)").refuses(UNKNOWN, "differs(-1) differs(2)");
        });
        Edge.sentence("NOT: it is empty.", CataloguesEdges::differsFromEmpty);
    }

    private static void differsEach() {
        String[] pushes = {"1, 0, 0", "0, -1, 0", "0, 0, 1"};
        for (String push : pushes) {
            new Run(TWO + "keep(0) burn(0, 5, " + push + ")").due("differs(0)", 1);
        }
        // A burn at the last place moves nothing.
        new Run(TWO + "keep(0) burn(0, 6, 1, 0, 0)").due("differs(0)", 0);
        new Run(TWO + "keep(0) place(0, 0, 0, 0)").due("differs(0)", 1);
        new Run(TWO + "keep(0) gone(0)").due("differs(0)", 1);
        new Run(TWO + "keep(0) place(0, 0, 0, 0) burn(0, 5, 1, 0, 0) gone(0)").due("differs(0)", 1);
        new Run(TWO + "keep(0) rule(0, 1) rule(1, 1) dot(0, 0, 0, 0)").due("differs(0)", 0);
        Run all = new Run("").does(16, "thing(0, 0, 0, 0, 0)").does("keep(0)");
        for (int t = 0; t < 16; t++) {
            all.does("gone(" + t + ")").due("differs(0)", t + 1);
        }
    }

    private static void differsInNumber() {
        Run r = new Run("thing(0, 0, 0, 0, 0) keep(0) keep(1)");
        for (int n = 1; n < 16; n++) {
            r.does("thing(0, 0, 0, 0, 0)").due("differs(0)", n);
        }
        r.does("keep(0)").due("differs(0) differs(1)", 0, 15);
        // The whole that is gone, and its parts.
        new Run(TWO + "keep(0) breaks(0, 5, 6)").due("differs(0)", 7);
    }

    private static void differsFromEmpty() {
        new Run("").refuses(NOT, "differs(0) differs(1)");
        new Run(TWO + "keep(0)").refuses(NOT, "differs(1)").due("differs(0)", 0);
        new Run(TWO + "keep(1)").refuses(NOT, "differs(0)").due("differs(1)", 0);
        // It got all things, but there was none: it is empty as before.
        new Run("keep(0)").refuses(NOT, "differs(0)").does("thing(0, 0, 0, 0, 0)").refuses(NOT, "differs(0)")
            .due("keep(0) differs(0)", 1, 0);
        new Run(TWO + "gone(0) keep(0)").due("differs(0)", 0);
    }
}
