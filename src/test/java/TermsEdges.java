/** The boundary cases that 'What it is' and 'Terms' name, but for the refusals, which RefusalsEdges has. */
final class TermsEdges {
    private static final int UNKNOWN = MeetingsAbove.UNKNOWN, OUTSIDE = MeetingsAbove.OUTSIDE;
    private static final int NOT = MeetingsAbove.NOT, FULL = MeetingsAbove.FULL, NONE = MeetingsAbove.NONE;
    private static final String TWO_THAT_MEET = "thing(0, 0, 0, 0, 0) thing(0, 10, 0, 0, 0) ";

    private TermsEdges() {
    }

    static void all() {
        Edge.in("What it is");
        Edge.sentence("An object is used for at most 512 calls after it has been made", TermsEdges::the512thCall);
        Edge.in("Terms");
        numbers();
        things();
        leasts();
        sieves();
        boxes();
        burns();
        dots();
        notices();
    }

    private static void the512thCall() {
        Run r = new Run(TWO_THAT_MEET + "notice(0, 1) notice(0, 1)");
        for (int i = 1; i <= 507; i++) {
            r.due("answer(0, 1, 2)", 0);
        }
        r.due("count(9)", 507);
    }

    // ---- numbers

    private static void numbers() {
        Edge.sentence("/ cuts towards 0", TermsEdges::cuts);
        Edge.sentence("what has a number has it from 0 on, as it comes", TermsEdges::numbersComeFrom0On);
        Edge.sentence("NONE is -1.", TermsEdges::noneIsBelow0);
    }

    private static void cuts() {
        int[][] leastDrift = {{2, -1}, {3, -1}, {4, -2}, {5, -2}, {6, -3}};
        for (int[] w : leastDrift) {
            new Run("thing(0, 0, 0, 0, 0) place(0, 0, 0, 0) breaks(0, 0, " + w[0] + ")").due("at(1, 1, 0)", w[1]);
        }
        // A half, and 2 and a half.
        new Run("thing(5, 1, 0, 0, 0) place(0, 0, 1, 0) thing(5, 0, 0, 0, 0) place(1, 0, 0, 0) notice(0, 1)")
            .due("least(0, 1, 0) least(0, 1, 1) noticed(0, 2)", 1, 2, 0);
        new Run("thing(5, 0, 0, 0, 0) place(0, 3, 0, 0) thing(5, 1, 2, 0, 0) place(1, 1, 1, 0) notice(0, 1)")
            .due("least(0, 1, 0) least(0, 1, 1) noticed(0, 2)", 5, 2, 2);
    }

    private static void numbersComeFrom0On() {
        new Run("").due("thing(0, 0, 0, 0, 0) thing(0, 0, 0, 0, 0) breaks(0, 0, 2) thing(0, 0, 0, 0, 0)", 0, 1, 2, 4)
            .due("dot(0, 0, 0, 0) dot(0, 0, 0, 0)", 0, 1)
            .due("notice(1, 4) notice(1, 4)", 0, 1)
            .due("keep(0) keep(1)", 5, 5)
            .due("meeting(0, 0) meeting(0, 1)", 1, 2)
            .due("told(-1, 0) dotted(-1, 0) noticed(-1, 0) keep(-1)", UNKNOWN, UNKNOWN, UNKNOWN, UNKNOWN);
    }

    private static void noneIsBelow0() {
        Due.is("NONE", NONE, -1);
        new Run("thing(0, 0, 0, 0, 0) dot(0, 1, 0, 0)").due("meeting(0, 0) dotted(0, 1) best(0, 0, 0)", -1, -1, -1);
    }

    // ---- 1 things

    private static void things() {
        Edge.sentence("THINGS (16 at most)", TermsEdges::sixteenThings);
        Edge.sentence("PLACES, 1 to 12 of them", TermsEdges::oneToTwelvePlaces);
        Edge.sentence("x, y, z (-5000 .. 5000 each)", TermsEdges::placesWithin5000);
        Edge.sentence("(STEPS 0 .. 39; the last one at 39 at most)", TermsEdges::steps0To39);
        Edge.sentence("in between they go straight from one to the next", TermsEdges::straightInBetween);
        Edge.sentence("DOUBT (0 .. 200)", TermsEdges::doubt0To200);
        Edge.sentence("A THING is GONE from then on when it breaks up, or is told so", TermsEdges::goneFromThenOn);
        Edge.sentence("it has its PLACES all the same", TermsEdges::goneHasItsPlaces);
        Edge.sentence("but counts nowhere where THINGS that are there are asked for", TermsEdges::goneCountsNowhere);
        Edge.sentence("Two THINGS are TOGETHER in the STEPS at which both have a PLACE", TermsEdges::together);
        Edge.sentence("if these are more than one, also between them", TermsEdges::togetherBetween);
    }

    private static void sixteenThings() {
        Run r = new Run("").does(15, "thing(0, 0, 0, 0, 0)");
        r.due("thing(0, 0, 0, 0, 0)", 15).refuses(FULL, "thing(0, 0, 0, 0, 0)").due("count(0)", 16);
        r.due("gone(0)", 1).refuses(FULL, "thing(0, 0, 0, 0, 0)").due("count(0) count(1)", 16, 15);
        new Run("").does(14, "thing(0, 0, 0, 0, 0)").due("breaks(3, 0, 2)", 14).due("count(0)", 16)
            .refuses(FULL, "breaks(4, 0, 2) thing(0, 0, 0, 0, 0)");
    }

    private static void oneToTwelvePlaces() {
        Run r = new Run("thing(0, 0, 0, 0, 0)").due("told(0, 1)", 1).does(10, "place(0, 0, 0, 0)");
        r.due("place(0, 0, 0, 0) told(0, 1)", 12, 12).refuses(FULL, "place(0, 0, 0, 0)").due("told(0, 1)", 12);
    }

    private static void placesWithin5000() {
        Run r = new Run("thing(0, 0, 0, 0, 0)");
        r.due("thing(0, 5000, 0, 0, 0) thing(0, -5000, 0, 0, 0) thing(0, 0, 5000, 0, 0)", 1, 2, 3);
        r.due("thing(0, 0, -5000, 0, 0) thing(0, 0, 0, 5000, 0) thing(0, 0, 0, -5000, 0)", 4, 5, 6);
        r.due("at(1, 0, 0) at(2, 0, 0) at(3, 0, 1) at(4, 0, 1) at(5, 0, 2) at(6, 0, 2)",
            5000, -5000, 5000, -5000, 5000, -5000);
        r.due("place(0, 5000, 0, 0) place(0, -5000, 0, 0) place(0, 0, 5000, 0)", 2, 3, 4);
        r.due("place(0, 0, -5000, 0) place(0, 0, 0, 5000) place(0, 0, 0, -5000)", 5, 6, 7);
        r.refuses(OUTSIDE, "thing(0, 5001, 0, 0, 0) thing(0, -5001, 0, 0, 0) thing(0, 0, 5001, 0, 0) "
            + "thing(0, 0, -5001, 0, 0) thing(0, 0, 0, 5001, 0) thing(0, 0, 0, -5001, 0)");
        r.refuses(OUTSIDE, "place(0, 5001, 0, 0) place(0, -5001, 0, 0) place(0, 0, 5001, 0) "
            + "place(0, 0, -5001, 0) place(0, 0, 0, 5001) place(0, 0, 0, -5001)");
    }

    private static void steps0To39() {
        Run r = new Run("").due("thing(0, 1, 2, 3, 0) thing(39, 4, 5, 6, 0)", 0, 1);
        r.refuses(OUTSIDE, "thing(-1, 0, 0, 0, 0) thing(40, 0, 0, 0, 0)");
        r.due("at(0, 0, 0) at(1, 39, 2)", 1, 6).refuses(OUTSIDE, "at(0, -1, 0) at(1, 40, 2)");
        r.due("thing(38, 0, 0, 0, 0) place(2, 7, 8, 9) at(2, 39, 1)", 2, 2, 8);
        r.refuses(NOT, "place(2, 0, 0, 0) place(1, 0, 0, 0)").due("told(2, 1) told(1, 1)", 2, 1);
    }

    private static void straightInBetween() {
        // It passes the other a third of the way on, just NEAR, or 1 nearer; if it goes by a place near to it, there.
        new Run("thing(0, 0, 0, 0, 0) place(0, 300, 0, 0) thing(0, 100, 50, 0, 0) place(1, 100, 50, 0)")
            .dueAll("least(0, 1, *)", 2500, 1, 0, 1, 3).due("count(2)", 0);
        new Run("thing(0, 0, 0, 0, 0) place(0, 300, 0, 0) thing(0, 100, 49, 0, 0) place(1, 100, 49, 0)")
            .dueAll("least(0, 1, *)", 2401, 1, 0, 1, 3).due("count(2)", 1);
        new Run("thing(0, 0, 0, 0, 0) place(0, 100, 40, 0) place(0, 300, 0, 0) thing(0, 100, 50, 0, 0) "
            + "place(1, 100, 50, 0) place(1, 100, 50, 0)").dueAll("least(0, 1, *)", 100, 1, 1, 0, 1);
    }

    private static void doubt0To200() {
        Run r = new Run("").due("thing(0, 0, 0, 0, 0) thing(0, 0, 0, 0, 200)", 0, 1);
        r.due("told(0, 2) told(1, 2)", 0, 200).refuses(OUTSIDE, "thing(0, 0, 0, 0, -1) thing(0, 0, 0, 0, 201)");
    }

    private static void goneFromThenOn() {
        Run r = new Run("thing(0, 0, 0, 0, 0) thing(0, 0, 0, 0, 0)").due("told(0, 3) told(1, 3)", 0, 0);
        r.due("gone(0) told(0, 3) told(1, 3)", 1, 1, 0).due("breaks(1, 0, 2) told(1, 3) told(2, 3)", 2, 1, 0);
        r.refuses(NOT, "gone(0) gone(1) place(0, 0, 0, 0) place(1, 0, 0, 0) breaks(0, 0, 2) breaks(1, 0, 2)");
        r.does("keep(0) rule(0, 60) dot(0, 0, 0, 0)").due("told(0, 3) told(1, 3)", 1, 1);
    }

    private static void goneHasItsPlaces() {
        String two = "thing(7, 1, 2, 3, 4) place(0, 4, 2, 3) thing(7, 1, 2, 3, 4) place(1, 1, 2, 3) ";
        for (String ended : new String[] {"gone(0) gone(1)", "breaks(0, 8, 2) breaks(1, 7, 2)"}) {
            Run r = new Run(two + ended);
            r.dueAll("told(0, *)", 7, 2, 4, 1).dueAll("at(0, 7, *)", 1, 2, 3).dueAll("at(0, 8, *)", 4, 2, 3);
            r.due("at(0, 6, 0) at(0, 9, 0)", NOT, NOT).dueAll("least(0, 1, *)", 0, 1, 7, 0, 1);
            r.due("share(0, 1, 7, 0) share(0, 1, 7, 1)", 1, 1);
        }
    }

    private static void goneCountsNowhere() {
        Run r = new Run(TWO_THAT_MEET + "place(0, 0, 0, 0) dot(0, 0, 0, 0) dot(0, 10, 0, 0)");
        r.due("count(1) count(2) count(4) count(6)", 2, 1, 2, 0);
        r.due("told(0, 4) told(1, 4) sieve(0, 1)", 1, 1, 3).due("best(0, 0, 0)", NONE);
        r.does("gone(1)").due("count(0) count(1) count(2) count(4) count(6)", 2, 1, 0, 1, 1);
        r.due("told(0, 4) told(1, 4) sieve(0, 1) meeting(0, 0)", 0, 0, 0, NONE);
        r.due("dotted(1, 0) dotted(1, 1) best(0, 0, 0)", 0, NONE, 1).refuses(NOT, "notice(0, 1)");
        r.does("gone(0)").due("count(0) count(1) count(4) count(6)", 2, 0, 0, 2);
    }

    private static void together() {
        Run r = new Run("thing(3, 0, 0, 0, 0) place(0, 0, 0, 0) thing(4, 1, 0, 0, 0) thing(5, 0, 0, 0, 0)");
        r.due("least(0, 1, 2) least(1, 0, 2) sieve(0, 1) told(0, 4)", 4, 4, 3, 1);
        r.due("least(0, 2, 0) least(2, 0, 0) sieve(0, 2) sieve(1, 2) told(2, 4)", NOT, NOT, 0, 0, 0);
        new Run("thing(3, 0, 0, 0, 0) place(0, 0, 0, 0) thing(2, 0, 0, 0, 0) thing(3, 1, 0, 0, 0)")
            .due("sieve(0, 1) sieve(0, 2) told(0, 4) least(0, 2, 2)", 0, 3, 1, 3);
    }

    private static void togetherBetween() {
        // Both cross half way; the one has no place at the far end at first.
        Run r = new Run("thing(0, 0, 0, 0, 0) place(0, 200, 0, 0) thing(0, 200, 0, 0, 0)");
        r.dueAll("least(0, 1, *)", 40000, 1, 0, 0, 1).due("count(2)", 0);
        r.does("place(1, 0, 0, 0)").dueAll("least(0, 1, *)", 0, 1, 0, 1, 2).due("count(2)", 1);
    }

    // ---- 2 the least

    private static void leasts() {
        Edge.sentence("the least square of their distance, a fraction in least terms", TermsEdges::leastTerms);
        Edge.sentence("WHEN: the first time at which it is so", TermsEdges::firstTime);
        Edge.sentence("a fraction of the way to the next one (0 <= fraction < 1)", TermsEdges::fractionBelow1);
        Edge.sentence("NEAR (1 .. 3000; 50 at first)", TermsEdges::near);
        Edge.sentence("two THINGS that are there, and TOGETHER, MEET, if THE LEAST is below NEAR times NEAR",
            TermsEdges::belowNear);
        Edge.sentence("MEETINGS are pairs, ordered by the lesser number, then the greater one", TermsEdges::ordered);
    }

    private static void leastTerms() {
        new Run("thing(0, 0, 0, 0, 0) thing(0, 0, 0, 0, 0)").dueAll("least(0, 1, *)", 0, 1, 0, 0, 1);
        new Run("thing(0, 5000, 5000, 5000, 0) thing(0, -5000, -5000, -5000, 0)")
            .dueAll("least(0, 1, *)", 300000000, 1, 0, 0, 1);
        // The gap goes from (-1, -1) to (1, -1) and is 1 half way: 4 of 4, 2 of 4.
        new Run("thing(0, 0, 0, 0, 0) place(0, 2, 0, 0) thing(0, 1, 1, 0, 0) place(1, 1, 1, 0)")
            .dueAll("least(0, 1, *)", 1, 1, 0, 1, 2);
        // From (-10000, -10000, -10000) to (10000, 10000, 9999): the far ends of what the bounds allow.
        new Run("thing(0, -5000, -5000, -5000, 0) place(0, 5000, 5000, 5000) thing(0, 5000, 5000, 5000, 0) "
            + "place(1, -5000, -5000, -4999)")
            .dueAll("least(0, 1, *)", 200000000L, 1199960001L, 0, 599990000L, 1199960001L);
    }

    private static void firstTime() {
        new Run("thing(4, 0, 0, 0, 0) place(0, 0, 0, 0) thing(4, 9, 0, 0, 0) place(1, 9, 0, 0)")
            .dueAll("least(0, 1, *)", 81, 1, 4, 0, 1);
        String rests = "thing(0, 0, 0, 0, 0) place(0, 0, 0, 0) place(0, 0, 0, 0) place(0, 0, 0, 0) ";
        new Run(rests + "thing(0, -5, 1, 0, 0) place(1, 5, 1, 0) place(1, -5, 1, 0) place(1, 5, 1, 0)")
            .dueAll("least(0, 1, *)", 1, 1, 0, 1, 2);
        new Run(rests + "thing(0, 9, 0, 0, 0) place(1, 5, 0, 0) place(1, 7, 0, 0) place(1, 5, 0, 0)")
            .dueAll("least(0, 1, *)", 25, 1, 1, 0, 1);
        // The later pass is nearer by a little: 36 / 37 against 1.
        new Run(rests + "thing(0, -5, 1, 0, 0) place(1, 12, 1, 0) place(1, 0, -1, 0) place(1, 0, -1, 0)")
            .dueAll("least(0, 1, *)", 36, 37, 1, 73, 74);
        // The whole numbers are the same, the fractions are not: 1 / 2 ahead of 1 / 10, behind it, and twice.
        new Run(rests + "thing(0, 1, 0, 0, 0) place(1, 0, 1, 0) place(1, 2, 1, 0) place(1, -1, 0, 0)")
            .dueAll("least(0, 1, *)", 1, 10, 2, 7, 10);
        new Run(rests + "thing(0, -1, 0, 0, 0) place(1, 2, 1, 0) place(1, 0, 1, 0) place(1, 1, 0, 0)")
            .dueAll("least(0, 1, *)", 1, 10, 0, 3, 10);
        new Run(rests + "thing(0, 1, 0, 0, 0) place(1, 0, 1, 0) place(1, 1, 0, 0) place(1, 0, 1, 0)")
            .dueAll("least(0, 1, *)", 1, 2, 0, 1, 2);
    }

    private static void fractionBelow1() {
        String rests = "thing(0, 0, 0, 0, 0) place(0, 0, 0, 0) place(0, 0, 0, 0) ";
        new Run(rests + "thing(0, 9, 0, 0, 0) place(1, 5, 0, 0) place(1, 9, 0, 0)")
            .dueAll("least(0, 1, *)", 25, 1, 1, 0, 1);
        new Run(rests + "thing(0, 9, 0, 0, 0) place(1, 8, 0, 0) place(1, 7, 0, 0)")
            .dueAll("least(0, 1, *)", 49, 1, 2, 0, 1);
        new Run(rests + "thing(0, 7, 0, 0, 0) place(1, 8, 0, 0) place(1, 9, 0, 0)")
            .dueAll("least(0, 1, *)", 49, 1, 0, 0, 1);
        // The way ends just where they are nearest, and just behind it.
        new Run("thing(0, 0, 0, 0, 0) place(0, 0, 0, 0) thing(0, 9, 1, 0, 0) place(1, 0, 1, 0)")
            .dueAll("least(0, 1, *)", 1, 1, 1, 0, 1);
        new Run("thing(0, 0, 0, 0, 0) place(0, 0, 0, 0) thing(0, 9, 0, 0, 0) place(1, -1, 0, 0)")
            .dueAll("least(0, 1, *)", 0, 1, 0, 9, 10);
        new Run("thing(38, 9, 0, 0, 0) place(0, 0, 0, 0) thing(38, 0, 0, 0, 0) place(1, 0, 0, 0)")
            .dueAll("least(0, 1, *)", 0, 1, 39, 0, 1);
    }

    private static void near() {
        Run r = new Run("thing(0, 0, 0, 0, 0) thing(0, 49, 0, 0, 0) thing(0, -50, 0, 0, 0)");
        r.due("told(0, 4) meeting(0, 1)", 1, 1).due("rule(0, 51) told(0, 4)", 50, 2);
        r.due("rule(0, 1) count(2)", 51, 0).does("thing(0, 0, 0, 0, 0)").due("count(2) meeting(0, 1)", 1, 3);
        r.refuses(OUTSIDE, "rule(0, 0) rule(0, 3001)");
        new Run("thing(0, 0, 0, 0, 0) thing(0, 2999, 0, 0, 0) thing(0, -3000, 0, 0, 0)")
            .due("rule(0, 3000) told(0, 4) meeting(0, 1) rule(0, 50)", 50, 1, 1, 3000);
    }

    private static void belowNear() {
        new Run("thing(0, 0, 0, 0, 0) thing(0, 30, 40, 0, 0)").due("least(0, 1, 0) count(2)", 2500, 0)
            .due("rule(0, 51) count(2)", 50, 1);
        // 2500 less 4 / 53.
        new Run("thing(0, 0, 0, 0, 0) place(0, 0, 0, 0) thing(0, 0, 52, 0, 0) place(1, -14, 48, 0)")
            .dueAll("least(0, 1, *)", 132496, 53, 0, 52, 53).due("count(2) notice(0, 1) noticed(0, 2)", 1, 0, 2499);
        // 2500 and 1 / 626 more.
        new Run("thing(0, 0, 0, 0, 0) place(0, 0, 0, 0) thing(0, -1, 50, 0, 0) place(1, -26, 49, 0)")
            .dueAll("least(0, 1, *)", 1565001, 626, 0, 25, 626).due("count(2) notice(0, 1)", 0, NOT);
    }

    private static void ordered() {
        Run r = new Run("").does(16, "thing(0, 0, 0, 0, 0)").due("count(2)", 120);
        r.due("meeting(0, 0) meeting(0, 1) meeting(14, 0) meeting(14, 1)", 0, 1, 0, 15);
        r.due("meeting(15, 0) meeting(15, 1) meeting(119, 0) meeting(119, 1)", 1, 2, 14, 15);
        r.due("meeting(120, 0) meeting(120, 1)", NONE, NONE);
    }

    // ---- the sieve

    private static void sieves() {
        Edge.sentence("0 one is not there, or they are not TOGETHER", TermsEdges::sieve0);
        Edge.sentence("over the STEPS in which they are TOGETHER, the least of one is NEAR or more above the greatest "
            + "of the other", TermsEdges::sieve1);
        Edge.sentence("for both ends of each way from a STEP to the next one", TermsEdges::sieve2);
        Edge.sentence("(or for the only STEP)", TermsEdges::sieveOfTheOnlyStep);
        Edge.sentence("3 neither", TermsEdges::sieve3);
        Edge.sentence("(Of 1 and 2 the lesser one.)", TermsEdges::sieveLesser);
        Edge.sentence("No pair with 1 or 2 MEETS.", TermsEdges::sieveLeavesNoMeetingOut);
    }

    private static void sieve0() {
        Run r = new Run("thing(0, 0, 0, 0, 0) thing(1, 0, 0, 0, 0) thing(0, 900, 0, 0, 0)");
        r.due("sieve(0, 1) sieve(1, 0) sieve(0, 2)", 0, 0, 1);
        r.does("gone(2)").due("sieve(0, 2) sieve(2, 0)", 0, 0);
        r.does("breaks(0, 0, 2)").due("sieve(0, 3) sieve(3, 0) sieve(3, 4)", 0, 0, 3);
    }

    private static void sieve1() {
        String[] apart = {"50, 0, 0", "-50, 0, 0", "0, 50, 0", "0, -50, 0", "0, 0, 50", "0, 0, -50"};
        for (String far : apart) {
            String close = far.replace("50", "49");
            String rests = "thing(1, 0, 0, 0, 0) place(0, 0, 0, 0) ";
            new Run(rests + "thing(1, " + far + ", 0) place(1, " + far + ")").due("sieve(0, 1) sieve(1, 0)", 1, 1);
            new Run(rests + "thing(1, " + far + ", 0) place(1, " + close + ")").due("sieve(0, 1) sieve(1, 0)", 3, 3);
            new Run(rests + "thing(1, " + close + ", 0) place(1, " + far + ")").due("sieve(0, 1) sieve(1, 0)", 3, 3);
            // Steps at which only one has a place don't count.
            new Run(rests + "thing(0, 0, 0, 0, 0) place(1, " + far + ")").due("sieve(0, 1) sieve(1, 0)", 1, 1);
            new Run(rests + "thing(2, " + far + ", 0) place(1, 0, 0, 0)").due("sieve(0, 1) sieve(1, 0)", 1, 1);
        }
    }

    private static void sieve2() {
        String rests = "thing(0, 0, 0, 0, 0) place(0, 0, 0, 0) place(0, 0, 0, 0) ";
        String turns = "thing(0, 50, 0, 0, 0) place(1, 50, -50, 0) place(1, 0, -50, 0)";
        new Run(rests + turns).due("sieve(0, 1) sieve(1, 0)", 2, 2);
        for (String bent : new String[] {turns.replaceFirst("50", "49"), turns.replaceFirst(", 50, -50", ", 49, -50"),
            turns.replaceFirst("50, -50", "50, -49"), turns.replaceFirst("0, -50, 0\\)$", "0, -49, 0)")}) {
            new Run(rests + bent).due("sieve(0, 1) sieve(1, 0)", 3, 3);
        }
        // Apart at each step, but by no axis for both ends of the one way.
        new Run("thing(0, 0, 0, 0, 0) place(0, 0, 0, 0) thing(0, 900, 0, 0, 0) place(1, 0, 900, 0)")
            .due("sieve(0, 1)", 3);
        new Run("thing(0, 0, 0, 0, 0) place(0, 0, 0, 0) thing(0, 900, 0, 0, 0) place(1, -900, 0, 0)")
            .due("sieve(0, 1)", 3);
        // Both move on by more than NEAR: apart on each way, but not over all.
        new Run("thing(0, 0, 0, 0, 0) place(0, 40, 0, 0) place(0, 80, 0, 0) "
            + "thing(0, 90, 0, 0, 0) place(1, 130, 0, 0) place(1, 170, 0, 0)").due("sieve(0, 1)", 2);
    }

    private static void sieveOfTheOnlyStep() {
        new Run("thing(0, 0, 0, 0, 0) thing(0, 50, 0, 0, 0) thing(0, 49, 49, 49, 0)")
            .due("sieve(0, 1) sieve(0, 2) sieve(2, 0)", 1, 3, 3);
        // What comes behind it does not count, however far off.
        new Run("thing(0, 0, 0, 0, 0) place(0, 900, 900, 900) thing(0, 1, 1, 1, 0)")
            .due("sieve(0, 1) sieve(1, 0)", 3, 3);
    }

    private static void sieve3() {
        new Run("thing(0, 0, 0, 0, 0) thing(0, 49, 49, 49, 0)").due("sieve(0, 1) count(2)", 3, 0);
        new Run("thing(0, 0, 0, 0, 0) thing(0, 0, 0, 0, 0)").due("sieve(0, 1) count(2)", 3, 1);
    }

    private static void sieveLesser() {
        new Run("thing(0, 0, 0, 0, 0) place(0, 0, 0, 0) thing(0, 50, 0, 0, 0) place(1, 50, 0, 0)")
            .due("sieve(0, 1)", 1);
        new Run("thing(0, 0, 0, 0, 0) thing(0, 50, 50, 50, 0)").due("sieve(0, 1)", 1);
    }

    private static void sieveLeavesNoMeetingOut() {
        new Run("thing(0, 0, 0, 0, 0) thing(0, 50, 0, 0, 0)").due("sieve(0, 1) least(0, 1, 0) count(2)", 1, 2500, 0);
        new Run("thing(0, 0, 0, 0, 0) place(0, 0, 0, 0) place(0, 0, 0, 0) "
            + "thing(0, 50, 0, 0, 0) place(1, 50, -50, 0) place(1, 0, -50, 0)")
            .due("sieve(0, 1) least(0, 1, 0) count(2)", 2, 2500, 0);
        new Run("thing(0, 0, 0, 0, 0) thing(0, 1, 0, 0, 0)").due("rule(0, 1) sieve(0, 1) count(2)", 50, 1, 0);
        new Run("thing(0, 0, 0, 0, 0) thing(0, 3000, 0, 0, 0)").due("rule(0, 3000) sieve(0, 1) count(2)", 50, 1, 0);
    }

    // ---- 3 boxes

    private static void boxes() {
        Edge.sentence("in each of the cells (2 DOUBT and 1 to a side) about its PLACE, by whole numbers",
            TermsEdges::cells);
        Edge.sentence("at most WIDE (0 .. 400; 20 at first) apart in each of x, y, z", TermsEdges::wide);
        Edge.sentence("of all pairs of cells, one of each, how many", TermsEdges::pairsOfCells);
        Edge.sentence("apart in each of x, y, z: a fraction in least terms", TermsEdges::shareInLeastTerms);
    }

    private static void dueShare(Run r, long upper, long lower) {
        r.due("share(0, 1, 0, 0) share(0, 1, 0, 1)", upper, lower);
        r.due("share(1, 0, 0, 0) share(1, 0, 0, 1)", upper, lower);
    }

    private static void cells() {
        dueShare(new Run("thing(0, 0, 0, 0, 0) thing(0, 0, 0, 0, 0) rule(1, 0)"), 1, 1);
        dueShare(new Run("thing(0, 0, 0, 0, 0) thing(0, 0, 0, 0, 200) rule(1, 0)"), 1, 401L * 401 * 401);
        dueShare(new Run("thing(0, 0, 0, 0, 0) thing(0, 200, 200, -200, 200) rule(1, 0)"), 1, 401L * 401 * 401);
        dueShare(new Run("thing(0, 0, 0, 0, 0) thing(0, 201, 0, 0, 200) rule(1, 0)"), 0, 1);
        // The cells go on behind the edge of the places.
        dueShare(new Run("thing(0, 5000, 5000, 5000, 1) thing(0, 5000, 5000, 5000, 1) rule(1, 0)"), 1, 27);
        dueShare(new Run("thing(0, -5000, -5000, -5000, 1) thing(0, -5000, -5000, -5000, 1) rule(1, 0)"), 1, 27);
    }

    private static void wide() {
        for (String far : new String[] {"20, 0, 0", "0, -20, 0", "0, 0, 20", "-20, 20, 20"}) {
            dueShare(new Run("thing(0, 0, 0, 0, 0) thing(0, " + far + ", 0)"), 1, 1);
            dueShare(new Run("thing(0, 0, 0, 0, 0) thing(0, " + far.replaceFirst("20", "21") + ", 0)"), 0, 1);
        }
        Run r = new Run("thing(0, 0, 0, 0, 0) thing(0, 400, -400, 400, 0) thing(0, 401, 0, 0, 0) thing(0, 1, 0, 0, 0)");
        r.due("rule(1, 400) share(0, 1, 0, 0) share(0, 2, 0, 0)", 20, 1, 0);
        r.due("rule(1, 399) share(0, 1, 0, 0)", 400, 0).due("rule(1, 0) share(0, 3, 0, 0)", 399, 0);
        r.due("rule(1, 1) share(0, 3, 0, 0)", 0, 1).refuses(OUTSIDE, "rule(1, -1) rule(1, 401)");
    }

    private static void pairsOfCells() {
        // Along x the cells -1, 0, 1 and 1, 2, 3 have one pair that is the same, of 9.
        dueShare(new Run("thing(0, 0, 0, 0, 1) thing(0, 2, 0, 0, 1) rule(1, 0)"), 1, 81);
        // Of 9 pairs along each axis all but the farthest one.
        dueShare(new Run("thing(0, 0, 0, 0, 1) thing(0, 2, 2, 2, 1) rule(1, 3)"), 512, 729);
        dueShare(new Run("thing(0, 0, 0, 0, 1) thing(0, 2, 2, 2, 1) rule(1, 4)"), 1, 1);
        dueShare(new Run("thing(0, 0, 0, 0, 200) thing(0, 0, 0, 0, 200) rule(1, 399)"),
            160799L * 160799 * 160799, 160801L * 160801 * 160801);
        dueShare(new Run("thing(0, 0, 0, 0, 200) thing(0, 0, 0, 0, 200) rule(1, 400)"), 1, 1);
    }

    private static void shareInLeastTerms() {
        dueShare(new Run("thing(0, 0, 0, 0, 200) thing(0, 5000, 0, 0, 200)"), 0, 1);
        dueShare(new Run("thing(0, 0, 0, 0, 0) thing(0, 1, 0, 0, 1) rule(1, 0)"), 1, 27);
        dueShare(new Run("thing(0, 0, 0, 0, 0) thing(0, 1, 0, 0, 1) rule(1, 1)"), 2, 3);
    }

    // ---- 4 burns

    private static void burns() {
        Edge.sentence("by (a, b, c), -2 .. 2 each, not all 0", TermsEdges::pushes);
        Edge.sentence("its PLACE at STEP s + i (i from 1 on) is i times these further", TermsEdges::iTimesFurther);
        Edge.sentence("FUEL is their sizes in all", TermsEdges::fuel);
        Edge.sentence("It is FREE, if the THING MEETS none then.", TermsEdges::free);
        Edge.sentence("of all FREE ones at STEPS from it on up to its last but one", TermsEdges::upToTheLastButOne);
        Edge.sentence("that with the least FUEL; of these at the latest STEP", TermsEdges::leastFuelLatestStep);
        Edge.sentence("of these with the least a, then b, then c", TermsEdges::leastPush);
    }

    private static void pushes() {
        Run r = new Run("thing(0, 0, 0, 0, 0) place(0, 0, 0, 0)");
        r.due("burn(0, 0, 2, 2, 2) burn(0, 0, -2, -2, -2)", 0, 0);
        r.due("burn(0, 0, 1, 0, 0) burn(0, 0, 0, -1, 0) burn(0, 0, 0, 0, 1)", 0, 0, 0);
        r.dueAll("at(0, 1, *)", 1, -1, 1);
        r.refuses(OUTSIDE, "burn(0, 0, 0, 0, 0) burn(0, 0, 3, 0, 0) burn(0, 0, -3, 0, 0) burn(0, 0, 0, 3, 0) "
            + "burn(0, 0, 0, -3, 0) burn(0, 0, 0, 0, 3) burn(0, 0, 0, 0, -3)");
    }

    private static void iTimesFurther() {
        Run r = new Run("thing(28, 5, 5, 5, 0)").does(11, "place(0, 5, 5, 5)").due("burn(0, 28, 2, -1, -2)", 0);
        for (int i = 0; i <= 11; i++) {
            r.dueAll("at(0, " + (28 + i) + ", *)", 5 + 2 * i, 5 - i, 5 - 2 * i);
        }
        r.due("burn(0, 38, -2, 0, 0) at(0, 37, 0) at(0, 38, 0) at(0, 39, 0)", 0, 23, 25, 25);
        r.due("burn(0, 39, 2, 2, 2)", 0).dueAll("at(0, 39, *)", 25, -6, -17);
    }

    private static void fuel() {
        Run r = new Run("rule(0, 5) thing(0, 0, 0, 0, 0) place(0, 0, 0, 0) thing(1, 1, 1, 1, 0)");
        r.dueAll("best(0, 0, *)", 6, 0, -2, -2, -2);
        new Run("rule(0, 5) thing(0, 0, 0, 0, 0) place(0, 0, 0, 0) thing(1, -1, 1, -1, 0)")
            .dueAll("best(0, 0, *)", 6, 0, 2, -2, 2);
        new Run("thing(0, 0, 0, 0, 0) place(0, 0, 0, 0)").dueAll("best(0, 0, *)", 1, 0, -1, 0, 0);
    }

    private static void free() {
        // One push to the left ends at just NEAR, or at 1 less.
        new Run("thing(0, 0, 0, 0, 0) place(0, 0, 0, 0) thing(1, 49, 0, 0, 0)").dueAll("best(0, 0, *)", 1, 0, -1, 0, 0);
        new Run("thing(0, 0, 0, 0, 0) place(0, 0, 0, 0) thing(1, 48, 0, 0, 0)").dueAll("best(0, 0, *)", 2, 0, -2, 0, 0);
        new Run("thing(0, 0, 0, 0, 0) place(0, 0, 0, 0) thing(1, 47, 0, 0, 0)").dueAll("best(0, 0, *)", -1, -1, 0, 0, 0);
        // It may meet none before the burn either.
        new Run("thing(0, 0, 0, 0, 0) place(0, 0, 0, 0) thing(0, 49, 0, 0, 0)").dueAll("best(0, 0, *)", -1, -1, 0, 0, 0);
        new Run("thing(0, 0, 0, 0, 0) place(0, 0, 0, 0) thing(0, 50, 0, 0, 0)").dueAll("best(0, 0, *)", 1, 0, -1, 0, 0);
        // Nor between the steps before it. At step 0 two to the side make 32400 / 32404, just below NEAR times NEAR;
        // with one more against the other it is 32400 / 32045.
        new Run("rule(0, 1) thing(0, 0, 0, 0, 0) place(0, 0, 0, 0) place(0, 0, 0, 0) "
            + "thing(0, 90, 0, 0, 0) place(1, -90, 0, 0)")
            .dueAll("best(0, 0, *)", 3, 0, -1, -2, 0).dueAll("best(0, 1, *)", -1, -1, 0, 0, 0);
    }

    private static void upToTheLastButOne() {
        Run r = new Run("thing(37, 0, 0, 0, 0) place(0, 0, 0, 0) place(0, 0, 0, 0)");
        r.due("best(0, 37, 1) best(0, 38, 1) best(0, 39, 1)", 38, 38, NONE);
        // Only a burn at the first step is in time.
        r = new Run("rule(0, 11) thing(0, 0, 0, 0, 0) place(0, 0, 0, 0) place(0, 0, 0, 0) thing(2, 7, 0, 0, 0)");
        r.dueAll("best(0, 0, *)", 2, 0, -2, 0, 0).dueAll("best(0, 1, *)", -1, -1, 0, 0, 0);
    }

    private static void leastFuelLatestStep() {
        // Two to the left are needed: 1 from step 0 on, or 2 at step 1; the lesser fuel goes first.
        Run r = new Run("rule(0, 10) thing(0, 0, 0, 0, 0) place(0, 0, 0, 0) place(0, 0, 0, 0) thing(2, 8, 0, 0, 0)");
        r.dueAll("best(0, 0, *)", 1, 0, -1, 0, 0).dueAll("best(0, 1, *)", 2, 1, -2, 0, 0);
        // One is enough: the later step.
        new Run("rule(0, 9) thing(0, 0, 0, 0, 0) place(0, 0, 0, 0) place(0, 0, 0, 0) thing(2, 8, 0, 0, 0)")
            .dueAll("best(0, 0, *)", 1, 1, -1, 0, 0);
    }

    private static void leastPush() {
        String[] starts = {"0, 0, 0", "-5000, 0, 0", "-5000, -5000, 0", "-5000, -5000, -5000", "-5000, 5000, 5000"};
        int[][] want = {{-1, 0, 0}, {0, -1, 0}, {0, 0, -1}, {0, 0, 1}, {0, -1, 0}};
        for (int i = 0; i < starts.length; i++) {
            new Run("thing(0, " + starts[i] + ", 0) place(0, " + starts[i] + ")")
                .dueAll("best(0, 0, *)", 1, 0, want[i][0], want[i][1], want[i][2]);
        }
    }

    // ---- 5 dots and notices

    private static void dots() {
        Edge.sentence("DOTS (40 at most)", TermsEdges::fortyDots);
        Edge.sentence(": a STEP and a place.", TermsEdges::dotWithinBounds);
        Edge.sentence("One is OF a THING that is there, if the THING has a PLACE at that STEP", TermsEdges::ofAThing);
        Edge.sentence("and the DOT is in its BOX", TermsEdges::inItsBox);
        Edge.sentence("JOINED: OF just one; OPEN: OF several; KEPT: OF none.", TermsEdges::joinedOpenKept);
    }

    private static void fortyDots() {
        Run r = new Run("thing(0, 0, 0, 0, 0)").does(39, "dot(0, 0, 0, 0)").due("dot(39, 1, 2, 3)", 39);
        r.refuses(FULL, "dot(0, 0, 0, 0)").due("count(3) count(4) count(6)", 40, 39, 1);
    }

    private static void dotWithinBounds() {
        Run r = new Run("").due("dot(0, 5000, 5000, 5000) dot(39, -5000, -5000, -5000)", 0, 1);
        r.refuses(OUTSIDE, "dot(-1, 0, 0, 0) dot(40, 0, 0, 0) dot(0, 5001, 0, 0) dot(0, -5001, 0, 0) "
            + "dot(0, 0, 5001, 0) dot(0, 0, -5001, 0) dot(0, 0, 0, 5001) dot(0, 0, 0, -5001)");
        r.does("thing(0, 4999, 5000, 5000, 1) thing(39, -5000, -5000, -4999, 1)").due("dotted(0, 1) dotted(1, 1)", 0, 1);
    }

    private static void ofAThing() {
        Run r = new Run("thing(5, 0, 0, 0, 9) place(0, 0, 0, 0)");
        r.does("dot(4, 0, 0, 0) dot(5, 0, 0, 0) dot(6, 0, 0, 0) dot(7, 0, 0, 0)");
        r.due("dotted(0, 0) dotted(1, 0) dotted(2, 0) dotted(3, 0)", 0, 1, 1, 0);
        r.due("dotted(0, 1) dotted(1, 1) dotted(2, 1) dotted(3, 1)", NONE, 0, 0, NONE);
        r.does("gone(0)").due("dotted(1, 0) dotted(2, 0) dotted(1, 1)", 0, 0, NONE);
    }

    private static void inItsBox() {
        Run r = new Run("thing(0, 0, 0, 0, 200) dot(0, 200, -200, 200) dot(0, -200, 200, -200) dot(0, 201, 0, 0) "
            + "dot(0, -201, 0, 0) dot(0, 0, 201, 0) dot(0, 0, -201, 0) dot(0, 0, 0, 201) dot(0, 0, 0, -201)");
        for (int d = 0; d < 8; d++) {
            r.due("dotted(" + d + ", 0)", d < 2 ? 1 : 0);
        }
        r = new Run("thing(0, 0, 0, 0, 0) dot(0, 0, 0, 0) dot(0, 1, 0, 0) dot(0, 0, -1, 0) dot(0, 0, 0, 1)");
        r.due("dotted(0, 0) dotted(1, 0) dotted(2, 0) dotted(3, 0)", 1, 0, 0, 0);
    }

    private static void joinedOpenKept() {
        Run r = new Run("dot(0, 0, 0, 0)").due("count(4) count(5) count(6)", 0, 0, 1);
        r.does("thing(0, 0, 0, 0, 0)").due("count(4) count(5) count(6)", 1, 0, 0);
        r.does("thing(0, 0, 0, 0, 0)").due("count(4) count(5) count(6)", 0, 1, 0);
        r.does(14, "thing(0, 0, 0, 0, 0)").due("count(4) count(5) count(6) dotted(0, 0)", 0, 1, 0, 16);
    }

    private static void notices() {
        Edge.sentence("NOTICES (40 at most)", TermsEdges::fortyNotices);
        Edge.sentence("of two THINGS that MEET as it comes", TermsEdges::meetAsItComes);
        Edge.sentence("it supersedes the one ahead of the same two", TermsEdges::supersedes);
        Edge.sentence("It HOLDS, if it is not superseded.", TermsEdges::holds);
        Edge.sentence("THE LEAST (cut to a whole number) and the STEP of WHEN as they were", TermsEdges::asTheyWere);
        Edge.sentence("an ANSWER (0 none, 1 yes, 2 no) of each of both", TermsEdges::answers);
        Edge.sentence("what comes for one that does not HOLD is LATE: it is not taken, but counted", TermsEdges::late);
    }

    private static void fortyNotices() {
        Run r = new Run(TWO_THAT_MEET).does(39, "notice(0, 1)").due("notice(1, 0)", 39);
        r.refuses(FULL, "notice(0, 1)").due("count(7) count(8) noticed(39, 4)", 40, 1, 1);
    }

    private static void meetAsItComes() {
        Run r = new Run("thing(0, 0, 0, 0, 0) thing(0, 50, 0, 0, 0)").refuses(NOT, "notice(0, 1)");
        r.does("rule(0, 51)").due("notice(0, 1)", 0);
        r.does("rule(0, 50)").due("noticed(0, 4)", 1).refuses(NOT, "notice(0, 1)");
    }

    private static void supersedes() {
        Run r = new Run(TWO_THAT_MEET + "thing(0, 20, 0, 0, 0)");
        r.does("notice(0, 1) notice(1, 2) notice(1, 0) notice(2, 0) notice(0, 1) notice(2, 1)");
        int[] ahead = {NONE, NONE, 0, NONE, 2, 1};
        for (int n = 0; n < ahead.length; n++) {
            r.due("noticed(" + n + ", 7)", ahead[n]);
        }
    }

    private static void holds() {
        Run r = new Run(TWO_THAT_MEET + "notice(0, 1)").due("noticed(0, 4) count(8)", 1, 1);
        r.does("gone(0)").due("noticed(0, 4) count(8)", 1, 1);
        r = new Run(TWO_THAT_MEET + "notice(0, 1) notice(0, 1)").due("noticed(0, 4) noticed(1, 4) count(8)", 0, 1, 1);
        r.does("gone(0) gone(1)").refuses(NOT, "notice(0, 1)").due("noticed(0, 4) noticed(1, 4) count(8)", 0, 1, 1);
    }

    private static void asTheyWere() {
        Run r = new Run("rule(0, 3000) thing(38, 0, 0, 0, 0) place(0, 0, 0, 0) thing(38, 0, 2999, 0, 0)");
        r.due("notice(0, 1) noticed(0, 2) noticed(0, 3)", 0, 2999 * 2999, 38);
        r.does("place(1, 0, 0, 0)").due("notice(0, 1) noticed(1, 2) noticed(1, 3)", 1, 0, 39);
        r.does("burn(0, 38, 2, 2, 2) gone(1)").due("noticed(0, 2) noticed(0, 3)", 2999 * 2999, 38);
        r.due("noticed(1, 2) noticed(1, 3)", 0, 39);
    }

    private static void answers() {
        Run r = new Run(TWO_THAT_MEET + "notice(1, 0)").due("noticed(0, 5) noticed(0, 6)", 0, 0);
        r.due("answer(0, 1, 2) noticed(0, 5) noticed(0, 6)", 1, 0, 2);
        r.due("answer(0, 0, 1) noticed(0, 5) noticed(0, 6)", 1, 1, 2);
        r.refuses(OUTSIDE, "answer(0, 0, 0) answer(0, 0, 3) answer(0, 1, 0) answer(0, 1, 3)");
    }

    private static void late() {
        Run r = new Run(TWO_THAT_MEET + "notice(0, 1) answer(0, 0, 1) notice(0, 1)").due("count(9)", 0);
        r.due("answer(0, 0, 2) count(9) noticed(0, 5)", 0, 1, 1).due("answer(0, 1, 2) count(9) noticed(0, 6)", 0, 2, 0);
        r.due("noticed(1, 5) noticed(1, 6)", 0, 0).due("answer(1, 0, 2) count(9) noticed(1, 5)", 1, 2, 2);
    }
}
