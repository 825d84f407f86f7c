/** The boundary cases that promises 1 to 9 name. */
final class ThingsEdges {
    private static final int UNKNOWN = MeetingsAbove.UNKNOWN, OUTSIDE = MeetingsAbove.OUTSIDE;
    private static final int NOT = MeetingsAbove.NOT, FULL = MeetingsAbove.FULL, NONE = MeetingsAbove.NONE;
    private static final String ONE = "thing(5, 1, 2, 3, 4) place(0, 4, 5, 6) place(0, 7, 8, 9) ";

    private ThingsEdges() {
    }

    static void all() {
        newObject();
        thing();
        place();
        gone();
        breaks();
        rule();
        told();
        at();
        count();
    }

    // ---- promise 1

    private static void newObject() {
        Edge.in("Promise 1: A new object");
        Edge.sentence("No THINGS, DOTS, NOTICES", () -> new Run("").dueAll("count(*)", 0, 0, 0, 0, 0, 0, 0, 0, 0, 0)
            .due("told(0, 0) dotted(0, 0) noticed(0, 0) meeting(0, 0)", UNKNOWN, UNKNOWN, UNKNOWN, NONE)
            .due("thing(0, 0, 0, 0, 0) dot(0, 0, 0, 0)", 0, 0));
        Edge.sentence("SHELVES are empty", () -> new Run("").due("differs(0) differs(1)", NOT, NOT));
        Edge.sentence("numbers as told", () -> new Run("").due("rule(0, 50) rule(1, 20) count(9)", 50, 20, 0));
    }

    // ---- promise 2

    private static void thing() {
        Edge.in("Promise 2: thing");
        Edge.sentence("A THING at a STEP, with one PLACE: its number.", ThingsEdges::thingHasOnePlace);
        Edge.sentence("OUTSIDE (DOUBT, too)", ThingsEdges::thingOutside);
        Edge.sentence(", FULL.", ThingsEdges::thingFull);
    }

    private static void thingHasOnePlace() {
        Run r = new Run("").due("thing(0, 5000, -5000, 5000, 200) thing(39, -5000, 5000, -5000, 0)", 0, 1);
        r.dueAll("told(0, *)", 0, 1, 200, 0, 0).dueAll("told(1, *)", 39, 1, 0, 0, 0);
        r.dueAll("at(0, 0, *)", 5000, -5000, 5000).dueAll("at(1, 39, *)", -5000, 5000, -5000);
        r.due("at(0, 1, 0) at(1, 38, 0)", NOT, NOT);
    }

    private static void thingOutside() {
        Run r = new Run("thing(0, 0, 0, 0, 0)");
        r.refuses(OUTSIDE, "thing(-1, 0, 0, 0, 0) thing(40, 0, 0, 0, 0) thing(0, 5001, 0, 0, 0) thing(0, -5001, 0, 0, 0) "
            + "thing(0, 0, 5001, 0, 0) thing(0, 0, -5001, 0, 0) thing(0, 0, 0, 5001, 0) thing(0, 0, 0, -5001, 0) "
            + "thing(0, 0, 0, 0, -1) thing(0, 0, 0, 0, 201) thing(40, 5001, 5001, 5001, 201)");
        r.due("thing(39, 5000, 5000, 5000, 200)", 1);
    }

    private static void thingFull() {
        Run r = new Run("").does(15, "thing(0, 0, 0, 0, 0)").due("thing(0, 0, 0, 0, 0)", 15);
        r.refuses(FULL, "thing(0, 0, 0, 0, 0) thing(39, 5000, 5000, 5000, 200)");
        for (int t = 0; t < 16; t++) {
            r.does("gone(" + t + ")");
        }
        r.refuses(FULL, "thing(0, 0, 0, 0, 0)").due("count(0) count(1)", 16, 0);
    }

    // ---- promise 3

    private static void place() {
        Edge.in("Promise 3: place");
        Edge.sentence("A PLACE more, for the next STEP: how many it has.", ThingsEdges::placeMore);
        Edge.sentence("UNKNOWN", () -> new Run(ONE).refuses(UNKNOWN, "place(-1, 0, 0, 0) place(1, 0, 0, 0)"));
        Edge.sentence("OUTSIDE", ThingsEdges::placeOutside);
        Edge.sentence("NOT: it is GONE", ThingsEdges::placeOfGone);
        Edge.sentence("or has one at STEP 39", ThingsEdges::placeBehind39);
        Edge.sentence("; FULL.", ThingsEdges::placeFull);
    }

    private static void placeMore() {
        Run r = new Run("thing(3, 0, 0, 0, 0) thing(3, 0, 0, 0, 0)");
        for (int n = 2; n <= 12; n++) {
            r.due("place(0, " + n + ", -5000, 5000)", n).dueAll("at(0, " + (n + 2) + ", *)", n, -5000, 5000);
            r.due("at(0, " + (n + 3) + ", 0) told(0, 1) told(1, 1)", NOT, n, 1);
        }
    }

    private static void placeOutside() {
        Run r = new Run(ONE);
        r.refuses(OUTSIDE, "place(0, 5001, 0, 0) place(0, -5001, 0, 0) place(0, 0, 5001, 0) place(0, 0, -5001, 0) "
            + "place(0, 0, 0, 5001) place(0, 0, 0, -5001)");
        r.due("place(0, 5000, 5000, 5000) place(0, -5000, -5000, -5000)", 4, 5);
    }

    private static void placeOfGone() {
        new Run(ONE + "gone(0)").refuses(NOT, "place(0, 0, 0, 0)").due("told(0, 1)", 3);
        new Run(ONE + "breaks(0, 7, 2)").refuses(NOT, "place(0, 0, 0, 0)").due("told(0, 1) place(1, 0, 0, 0)", 3, 2);
    }

    private static void placeBehind39() {
        Run r = new Run("thing(39, 0, 0, 0, 0) thing(38, 0, 0, 0, 0) thing(28, 0, 0, 0, 0)");
        r.refuses(NOT, "place(0, 0, 0, 0)").due("place(1, 0, 0, 0)", 2).refuses(NOT, "place(1, 0, 0, 0)");
        r.does(10, "place(2, 0, 0, 0)").due("place(2, 0, 0, 0)", 12).refuses(NOT, "place(2, 0, 0, 0)");
        // The parts of one that breaks up have the same last step.
        r.due("breaks(1, 38, 2)", 3).refuses(NOT, "place(3, 0, 0, 0) place(4, 0, 0, 0)");
    }

    private static void placeFull() {
        for (String first : new String[] {"0", "27"}) {
            Run r = new Run("thing(" + first + ", 0, 0, 0, 0)").does(10, "place(0, 0, 0, 0)");
            r.due("place(0, 0, 0, 0)", 12).refuses(FULL, "place(0, 0, 0, 0)").due("told(0, 1)", 12);
        }
    }

    // ---- promise 4

    private static void gone() {
        Edge.in("Promise 4: gone");
        Edge.sentence("A THING is GONE: 1.", () -> new Run(ONE + "thing(0, 0, 0, 0, 0)")
            .due("gone(0) told(0, 3) told(1, 3) count(0) count(1)", 1, 1, 0, 2, 1).due("gone(1) count(1)", 1, 0));
        Edge.sentence("UNKNOWN", () -> {
            new Run("").refuses(UNKNOWN, "gone(0)");
            new Run(ONE).refuses(UNKNOWN, "gone(-1) gone(1)").due("gone(0)", 1);
        });
        Edge.sentence("NOT: it is GONE.", () -> {
            new Run(ONE + "gone(0)").refuses(NOT, "gone(0)");
            new Run(ONE + "breaks(0, 5, 2)").refuses(NOT, "gone(0)").due("gone(1)", 1).refuses(NOT, "gone(1)");
        });
    }

    // ---- promise 5

    private static void breaks() {
        Edge.in("Promise 5: breaks");
        Edge.sentence("A THING breaks up at a STEP into n (2 .. 6)", ThingsEdges::breaksInto2To6);
        Edge.sentence("it is GONE; n THINGS come, with its PLACE at that STEP and its DOUBT", ThingsEdges::partsCome);
        Edge.sentence("j STEPS further (as far as the THING has PLACES)", ThingsEdges::partsGoAsFar);
        Edge.sentence("j (i less n / 2) more in x, j ((i modulo 2) 2 less 1) more in y", ThingsEdges::partsDrift);
        Edge.sentence("the first one's number", ThingsEdges::firstPart);
        Edge.sentence("UNKNOWN", () -> new Run(ONE).refuses(UNKNOWN, "breaks(-1, 5, 2) breaks(1, 5, 2)"));
        Edge.sentence("OUTSIDE (n;", () -> new Run(ONE)
            .refuses(OUTSIDE, "breaks(0, 5, 1) breaks(0, 5, 7) breaks(0, 5, 0) breaks(0, 5, -2)"));
        Edge.sentence("it has no PLACE at that STEP)", ThingsEdges::breaksWithoutAPlace);
        Edge.sentence("NOT: it is GONE", () -> {
            new Run(ONE + "gone(0)").refuses(NOT, "breaks(0, 5, 2)");
            new Run(ONE + "breaks(0, 5, 2)").refuses(NOT, "breaks(0, 5, 2) breaks(0, 7, 6)");
        });
        Edge.sentence("or a place would be out of its bounds", ThingsEdges::partsWouldBeOut);
        Edge.sentence("FULL: there is not room for all.", ThingsEdges::noRoomForAllParts);
    }

    private static void breaksInto2To6() {
        for (int n = 2; n <= 6; n++) {
            new Run(ONE).due("breaks(0, 5, " + n + ") count(0) count(1)", 1, n + 1, n);
        }
        new Run(ONE).refuses(OUTSIDE, "breaks(0, 5, 1) breaks(0, 5, 7)");
    }

    private static void partsCome() {
        for (int step = 5; step <= 7; step++) {
            Run r = new Run(ONE).due("breaks(0, " + step + ", 2) told(0, 3)", 1, 1);
            for (int part = 1; part <= 2; part++) {
                r.dueAll("told(" + part + ", *)", step, 8 - step, 4, 0, 1);
                int x = 3 * (step - 5);
                r.dueAll("at(" + part + ", " + step + ", *)", 1 + x, 2 + x, 3 + x);
            }
        }
        new Run("thing(39, 5000, -5000, 5000, 200)").due("breaks(0, 39, 6) told(6, 0) told(6, 1) told(6, 2)", 1, 39, 1, 200)
            .dueAll("at(6, 39, *)", 5000, -5000, 5000);
    }

    private static void partsGoAsFar() {
        new Run(ONE).due("breaks(0, 7, 2) told(1, 1) at(1, 8, 0) at(1, 6, 0)", 1, 1, NOT, NOT);
        new Run(ONE).due("breaks(0, 6, 2) told(1, 1) at(1, 7, 0) at(1, 8, 0) at(1, 5, 0)", 1, 2, 6, NOT, NOT);
        Run r = new Run("thing(28, 0, 0, 0, 0)").does(11, "place(0, 0, 0, 0)").due("breaks(0, 28, 6)", 1);
        r.due("told(1, 1)", 12).dueAll("at(1, 39, *)", -33, -11, 0).dueAll("at(6, 39, *)", 22, 11, 0);
    }

    private static void partsDrift() {
        int[][] x = {{-1, 0}, {-1, 0, 1}, {-2, -1, 0, 1}, {-2, -1, 0, 1, 2}, {-3, -2, -1, 0, 1, 2}};
        int[] y = {-1, 1, -1, 1, -1, 1};
        for (int n = 2; n <= 6; n++) {
            Run r = new Run(ONE + "breaks(0, 5, " + n + ")");
            for (int i = 0; i < n; i++) {
                for (int j = 0; j <= 2; j++) {
                    r.dueAll("at(" + (1 + i) + ", " + (5 + j) + ", *)",
                        1 + 3 * j + j * x[n - 2][i], 2 + 3 * j + j * y[i], 3 + 3 * j);
                }
            }
        }
    }

    private static void firstPart() {
        Run r = new Run(ONE).due("breaks(0, 5, 2) breaks(1, 5, 3) breaks(2, 5, 2)", 1, 3, 6);
        r.due("thing(0, 0, 0, 0, 0)", 8);
    }

    private static void breaksWithoutAPlace() {
        new Run(ONE).refuses(OUTSIDE, "breaks(0, 4, 2) breaks(0, 8, 2) breaks(0, -1, 2) breaks(0, 40, 2) breaks(0, 39, 2)")
            .due("breaks(0, 7, 2)", 1);
        new Run(ONE).due("breaks(0, 5, 2)", 1);
    }

    private static void partsWouldBeOut() {
        // The first part goes to the left by n / 2 a step, the last one to the right by n - 1 - n / 2.
        String[] out = {"-5000, 0, 0", "4999, 5000, 0", "4999, -5000, 0"};
        String[] in = {"-4999, 0, 0", "5000, 4999, 0", "5000, -4999, 0"};
        for (int i = 0; i < 3; i++) {
            new Run("thing(0, 0, 0, 0, 0) place(0, " + out[i] + ")").refuses(NOT, "breaks(0, 0, 2)").due("told(0, 3)", 0);
            new Run("thing(0, 0, 0, 0, 0) place(0, " + in[i] + ")").due("breaks(0, 0, 2)", 1);
        }
        new Run("thing(0, 0, 0, 0, 0) place(0, 5000, 0, 0)").refuses(NOT, "breaks(0, 0, 3)").due("breaks(0, 0, 2)", 1);
        new Run("thing(0, 0, 0, 0, 0) place(0, 4999, 0, 5000)").due("breaks(0, 0, 3) at(3, 1, 0) at(3, 1, 2)", 1, 5000, 5000);
        // Only the twelfth place would be out, by one.
        new Run("thing(0, 0, 0, 0, 0)").does(10, "place(0, 0, 0, 0)").does("place(0, -4968, 0, 0)")
            .refuses(NOT, "breaks(0, 0, 6)").due("breaks(0, 0, 5)", 1);
        new Run("thing(0, 0, 0, 0, 0)").does(10, "place(0, 0, 0, 0)").does("place(0, -4967, 0, 0)")
            .due("breaks(0, 0, 6) at(1, 11, 0)", 1, -5000);
        new Run("thing(0, 0, 0, 0, 0)").does(10, "place(0, 0, 0, 0)").does("place(0, 4979, 0, 0)")
            .refuses(NOT, "breaks(0, 0, 6)").due("breaks(0, 1, 6) at(6, 11, 0)", 1, 4999);
        new Run("thing(0, 0, 0, 0, 0)").does(10, "place(0, 0, 0, 0)").does("place(0, 0, 4990, 0)")
            .refuses(NOT, "breaks(0, 0, 2)").due("breaks(0, 1, 2) at(2, 11, 1)", 1, 5000);
        // The place at the step itself and those ahead of it may lie at the edge.
        new Run("thing(0, -5000, 5000, 5000, 0) place(0, 5000, -5000, 0) place(0, 0, 0, 0)").due("breaks(0, 1, 6)", 1);
    }

    private static void noRoomForAllParts() {
        for (int n = 2; n <= 6; n++) {
            Run r = new Run(ONE).does(16 - n, "thing(0, 0, 0, 0, 0)");
            r.refuses(FULL, "breaks(0, 5, " + n + ")").due("told(0, 3) count(0)", 0, 17 - n);
            r = new Run(ONE).does(15 - n, "thing(0, 0, 0, 0, 0)");
            r.due("breaks(0, 5, " + n + ") count(0)", 16 - n, 16);
        }
    }

    // ---- promise 6

    private static void rule() {
        Edge.in("Promise 6: rule");
        Edge.sentence("What = 0 NEAR, 1 WIDE becomes v: what it was.", () -> new Run("")
            .due("rule(0, 1) rule(0, 3000) rule(0, 3000) rule(0, 50)", 50, 1, 3000, 3000)
            .due("rule(1, 0) rule(1, 400) rule(1, 400) rule(1, 20)", 20, 0, 400, 400));
        Edge.sentence("OUTSIDE.", () -> new Run("rule(0, 77) rule(1, 88)")
            .refuses(OUTSIDE, "rule(-1, 50) rule(2, 50) rule(0, 0) rule(0, -1) rule(0, 3001) rule(1, -1) rule(1, 401) "
                + "rule(2, 0) rule(-1, 3001)").due("rule(0, 50) rule(1, 20)", 77, 88));
    }

    // ---- promise 7

    private static void told() {
        Edge.in("Promise 7: told");
        Edge.sentence("what = 0 FIRST STEP, 1 PLACES, 2 DOUBT, 3 whether it is GONE (1, 0), 4 how many it MEETS",
            ThingsEdges::toldEach);
        Edge.sentence("(0, if it is GONE)", () -> new Run("").does(16, "thing(0, 0, 0, 0, 0)")
            .due("told(7, 4) gone(7) told(7, 4) told(8, 4)", 15, 1, 0, 14)
            .does("gone(8)").due("told(7, 4) told(8, 4)", 0, 0));
        Edge.sentence("UNKNOWN", () -> new Run(ONE).refuses(UNKNOWN, "told(-1, 0) told(1, 0)"));
        Edge.sentence("OUTSIDE.", () -> new Run(ONE).refuses(OUTSIDE, "told(0, -1) told(0, 5)"));
    }

    private static void toldEach() {
        new Run("thing(0, 0, 0, 0, 0)").dueAll("told(0, *)", 0, 1, 0, 0, 0);
        new Run("thing(28, 0, 0, 0, 200)").does(11, "place(0, 0, 0, 0)").does(15, "thing(39, 0, 0, 0, 0)")
            .dueAll("told(0, *)", 28, 12, 200, 0, 15).does("gone(0)").dueAll("told(0, *)", 28, 12, 200, 1, 0);
    }

    // ---- promise 8

    private static void at() {
        Edge.in("Promise 8: at");
        Edge.sentence("x, y, z (what = 0, 1, 2) of a THING at a STEP.", () -> new Run(ONE).dueAll("at(0, 5, *)", 1, 2, 3)
            .dueAll("at(0, 6, *)", 4, 5, 6).dueAll("at(0, 7, *)", 7, 8, 9));
        Edge.sentence("UNKNOWN", () -> new Run(ONE).refuses(UNKNOWN, "at(-1, 5, 0) at(1, 5, 0)"));
        Edge.sentence("OUTSIDE", () -> new Run(ONE)
            .refuses(OUTSIDE, "at(0, 5, -1) at(0, 5, 3) at(0, -1, 0) at(0, 40, 0) at(0, 40, 3)"));
        Edge.sentence("NOT: it has no PLACE there.", () -> {
            new Run(ONE).refuses(NOT, "at(0, 4, 0) at(0, 8, 0) at(0, 0, 2) at(0, 39, 1)");
            new Run(ONE + "gone(0)").refuses(NOT, "at(0, 4, 0) at(0, 8, 0)").due("at(0, 5, 0)", 1);
            new Run(ONE + "breaks(0, 6, 2)").refuses(NOT, "at(1, 5, 0) at(1, 8, 0)").due("at(1, 6, 0)", 4);
        });
    }

    // ---- promise 9

    private static void count() {
        Edge.in("Promise 9: count");
        Edge.sentence("0 THINGS, 1 that are there, 2 MEETINGS, 3 DOTS, 4 JOINED, 5 OPEN, 6 KEPT, 7 NOTICES, 8 that HOLD, "
            + "9 LATE answers", ThingsEdges::countEach);
        Edge.sentence("OUTSIDE.", () -> new Run(ONE).refuses(OUTSIDE, "count(-1) count(10)"));
    }

    private static void countEach() {
        new Run("").dueAll("count(*)", 0, 0, 0, 0, 0, 0, 0, 0, 0, 0);
        Run r = new Run("").does(16, "thing(0, 0, 0, 0, 0)").does(40, "dot(0, 0, 0, 0) notice(14, 15)");
        r.dueAll("count(*)", 16, 16, 120, 40, 0, 40, 0, 40, 1, 0);
        for (int t = 0; t < 15; t++) {
            r.does("gone(" + t + ") answer(" + t + ", 14, 1)");
        }
        r.dueAll("count(*)", 16, 1, 0, 40, 40, 0, 0, 40, 1, 15);
        r.does("gone(15)").dueAll("count(*)", 16, 0, 0, 40, 0, 0, 40, 40, 1, 15);
    }
}
