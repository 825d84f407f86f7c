/** The boundary cases that promises 14 and 15 name. */
final class BurnsEdges {
    private static final int UNKNOWN = MeetingsAbove.UNKNOWN, OUTSIDE = MeetingsAbove.OUTSIDE;
    private static final int NOT = MeetingsAbove.NOT;
    /** One that rests at steps 3, 4, 5. */
    private static final String ONE = "thing(3, 0, 0, 0, 0) place(0, 0, 0, 0) place(0, 0, 0, 0) ";

    private BurnsEdges() {
    }

    static void all() {
        best();
        burn();
    }

    // ---- promise 14

    private static void best() {
        Edge.in("Promise 14: best");
        Edge.sentence("THE BURN: what = 0 FUEL, 1 its STEP, 2, 3, 4 a, b, c.", BurnsEdges::bestEach);
        Edge.sentence("NONE (of 0, 1): there is none; 0 then of 2 to 4.", BurnsEdges::bestOfNone);
        Edge.sentence("UNKNOWN", () -> {
            new Run("").refuses(UNKNOWN, "best(0, 0, 0)");
            new Run(ONE).refuses(UNKNOWN, "best(-1, 3, 0) best(1, 3, 0)");
        });
        Edge.sentence("OUTSIDE (the STEP: one at which it has a PLACE)", () -> new Run(ONE)
            .refuses(OUTSIDE, "best(0, 2, 0) best(0, 6, 0) best(0, -1, 0) best(0, 40, 0) best(0, 3, -1) best(0, 3, 5)")
            .due("best(0, 3, 0) best(0, 5, 0)", 1, -1));
        Edge.sentence("NOT: it is GONE.", () -> {
            new Run(ONE + "gone(0)").refuses(NOT, "best(0, 3, 0) best(0, 5, 0) best(0, 3, 4)");
            new Run(ONE + "breaks(0, 3, 2)").refuses(NOT, "best(0, 3, 0)");
        });
    }

    private static void bestEach() {
        new Run(ONE).dueAll("best(0, 3, *)", 1, 4, -1, 0, 0).dueAll("best(0, 4, *)", 1, 4, -1, 0, 0)
            .dueAll("at(0, 5, *)", 0, 0, 0);
        Run twelve = new Run("thing(28, 0, 0, 0, 0)").does(11, "place(0, 0, 0, 0)");
        twelve.dueAll("best(0, 28, *)", 1, 38, -1, 0, 0).dueAll("best(0, 38, *)", 1, 38, -1, 0, 0);
        // Eleven steps ahead is just in time: 22 to the left of what stands 28 to the right make 50.
        twelve.does("thing(39, 28, 0, 0, 0)").dueAll("best(0, 28, *)", 2, 28, -2, 0, 0)
            .dueAll("best(0, 29, *)", 4, 29, -2, -2, 0);
    }

    private static void bestOfNone() {
        new Run("thing(39, 0, 0, 0, 0)").dueAll("best(0, 39, *)", -1, -1, 0, 0, 0);
        new Run(ONE).dueAll("best(0, 5, *)", -1, -1, 0, 0, 0);
        // It meets another at its first step already; and at its last one, whatever it does.
        new Run(ONE + "thing(3, 0, 0, 0, 0)").dueAll("best(0, 3, *)", -1, -1, 0, 0, 0);
        new Run(ONE + "thing(5, 0, 0, 0, 0)").dueAll("best(0, 3, *)", -1, -1, 0, 0, 0);
        // At the corner only burns back inside are left, and the other one stands there, or does not.
        new Run("rule(0, 1) thing(0, 5000, 5000, 5000, 0) place(0, 5000, 5000, 5000) thing(1, 5000, 5000, 5000, 0)")
            .dueAll("best(0, 0, *)", 1, 0, -1, 0, 0);
        new Run("rule(0, 4) thing(0, 5000, 5000, 5000, 0) place(0, 5000, 5000, 5000) thing(1, 4998, 4998, 4998, 0)")
            .dueAll("best(0, 0, *)", -1, -1, 0, 0, 0);
        new Run("rule(0, 4) thing(0, 4998, 4998, 4998, 0) place(0, 4998, 4998, 4998) thing(1, 4996, 4996, 4996, 0)")
            .dueAll("best(0, 0, *)", 1, 0, 0, 0, 1);
    }

    // ---- promise 15

    private static void burn() {
        Edge.in("Promise 15: burn");
        Edge.sentence("A BURN is done: how many the THING MEETS then.", BurnsEdges::burnCountsMeetings);
        Edge.sentence("UNKNOWN", () -> {
            new Run("").refuses(UNKNOWN, "burn(0, 0, 1, 0, 0)");
            new Run(ONE).refuses(UNKNOWN, "burn(-1, 3, 1, 0, 0) burn(1, 3, 1, 0, 0)");
        });
        Edge.sentence("OUTSIDE (the STEP: one at which it has a PLACE;", () -> new Run(ONE)
            .refuses(OUTSIDE, "burn(0, 2, 1, 0, 0) burn(0, 6, 1, 0, 0) burn(0, -1, 1, 0, 0) burn(0, 40, 1, 0, 0)")
            .due("burn(0, 3, 1, 0, 0) burn(0, 5, 1, 0, 0)", 0, 0).dueAll("at(0, 5, *)", 2, 0, 0));
        Edge.sentence("a, b, c, all 0)", () -> new Run(ONE)
            .refuses(OUTSIDE, "burn(0, 3, 0, 0, 0) burn(0, 5, 0, 0, 0) burn(0, 3, 3, 0, 0) burn(0, 3, -3, 0, 0) "
                + "burn(0, 3, 0, 3, 0) burn(0, 3, 0, -3, 0) burn(0, 3, 0, 0, 3) burn(0, 3, 0, 0, -3) burn(0, 5, 3, 0, 0)")
            .due("burn(0, 3, 2, -2, 2)", 0).dueAll("at(0, 5, *)", 4, -4, 4));
        Edge.sentence("NOT: it is GONE", () -> {
            new Run(ONE + "gone(0)").refuses(NOT, "burn(0, 3, 1, 0, 0) burn(0, 5, 1, 0, 0)");
            new Run(ONE + "breaks(0, 3, 2)").refuses(NOT, "burn(0, 3, 1, 0, 0)");
        });
        Edge.sentence("or a place would be out of its bounds", BurnsEdges::burnWouldBeOut);
        Edge.sentence("(such a BURN is never FREE)", BurnsEdges::burnOutIsNeverFree);
    }

    private static void burnCountsMeetings() {
        Run r = new Run(ONE + "thing(5, 49, 0, 0, 0) thing(5, 52, 0, 0, 0)");
        r.due("burn(0, 4, -1, 0, 0) burn(0, 4, 1, 0, 0)", 0, 1).due("burn(0, 4, 2, 0, 0) burn(0, 4, 1, 0, 0)", 1, 2);
        r.due("told(0, 4)", 2).does("gone(1)").due("burn(0, 4, 0, 0, 1)", 1);
        Run all = new Run("").does(16, "thing(0, 0, 0, 0, 0)");
        all.due("burn(0, 0, 2, 2, 2) burn(15, 0, -2, -2, -2)", 15, 15);
    }

    private static void burnWouldBeOut() {
        String[] edges = {"5000, 0, 0", "-5000, 0, 0", "0, 5000, 0", "0, -5000, 0", "0, 0, 5000", "0, 0, -5000"};
        String[] pushes = {"1, 0, 0", "-1, 0, 0", "0, 1, 0", "0, -1, 0", "0, 0, 1", "0, 0, -1"};
        for (int i = 0; i < edges.length; i++) {
            new Run("thing(0, 0, 0, 0, 0) place(0, " + edges[i] + ")").refuses(NOT, "burn(0, 0, " + pushes[i] + ")");
            String oneLess = edges[i].replace("5000", "4999");
            int edge = edges[i].contains("-") ? -5000 : 5000;
            new Run("thing(0, 0, 0, 0, 0) place(0, " + oneLess + ")").due("burn(0, 0, " + pushes[i] + ")", 0)
                .due("at(0, 1, " + i / 2 + ")", edge);
        }
        // Only the twelfth place would be out, by one; then it ends just at the edge.
        Run r = new Run("thing(0, 0, 0, 0, 0)").does(10, "place(0, 0, 0, 0)").does("place(0, 4979, 0, 0)");
        r.refuses(NOT, "burn(0, 0, 2, 0, 0)").due("burn(0, 0, 1, 0, 0) at(0, 11, 0)", 0, 4990);
        r.refuses(NOT, "burn(0, 0, 1, 0, 0)").due("burn(0, 1, 1, 0, 0) at(0, 11, 0)", 0, 5000);
        // The place at the step itself does not move.
        new Run("thing(0, 5000, 5000, 5000, 0) place(0, 0, 0, 0)").due("burn(0, 0, 2, 2, 2)", 0);
        new Run("thing(0, 5000, 5000, 5000, 0)").due("burn(0, 0, 2, 2, 2)", 0).dueAll("at(0, 0, *)", 5000, 5000, 5000);
    }

    private static void burnOutIsNeverFree() {
        new Run("thing(0, -5000, 0, 0, 0) place(0, -5000, 0, 0)").dueAll("best(0, 0, *)", 1, 0, 0, -1, 0);
        new Run("thing(0, -4999, 0, 0, 0) place(0, -4999, 0, 0)").dueAll("best(0, 0, *)", 1, 0, -1, 0, 0);
        // One to the left would be enough at step 1, but then the last place would be out.
        new Run("rule(0, 2) thing(0, -4999, 0, 0, 0) place(0, -4999, 0, 0) place(0, -4999, 0, 0) thing(1, -4998, 0, 0, 0)")
            .dueAll("best(0, 0, *)", 2, 0, 0, -2, 0);
    }
}
