/** The boundary cases that promises 10 to 13 name. */
final class MeetingsEdges {
    private static final int UNKNOWN = MeetingsAbove.UNKNOWN, OUTSIDE = MeetingsAbove.OUTSIDE;
    private static final int NOT = MeetingsAbove.NOT, NONE = MeetingsAbove.NONE;
    /** Two that meet, and one that is never there with them. */
    private static final String THREE = "thing(5, 0, 0, 0, 1) place(0, 0, 0, 0) thing(5, 3, 4, 0, 1) thing(9, 0, 0, 0, 0) ";

    private MeetingsEdges() {
    }

    static void all() {
        sieve();
        least();
        meeting();
        share();
    }

    private static void sieve() {
        Edge.in("Promise 10: sieve");
        Edge.sentence("THE SIEVE.", () -> new Run(THREE).due("sieve(0, 1) sieve(1, 0) sieve(0, 2) sieve(2, 1)", 3, 3, 0, 0)
            .does("rule(0, 4)").due("sieve(0, 1)", 1).does("rule(0, 5)").due("sieve(0, 1) count(2)", 3, 0));
        Edge.sentence("UNKNOWN", () -> {
            new Run("").refuses(UNKNOWN, "sieve(0, 0) sieve(0, 1)");
            new Run(THREE).refuses(UNKNOWN, "sieve(0, 3) sieve(3, 0) sieve(-1, 0) sieve(0, -1) sieve(3, 3)");
        });
        Edge.sentence("NOT: they are one.", () -> new Run(THREE + "gone(1)")
            .refuses(NOT, "sieve(0, 0) sieve(1, 1) sieve(2, 2)"));
    }

    private static void least() {
        Edge.in("Promise 11: least");
        Edge.sentence("THE LEAST: what = 0 the upper number, 1 the lower one; WHEN: 2 the STEP, 3 the upper number of the "
            + "fraction, 4 the lower one", MeetingsEdges::leastEach);
        Edge.sentence("(0 and 1 for none)", MeetingsEdges::leastWithoutAFraction);
        Edge.sentence("UNKNOWN", () -> new Run(THREE)
            .refuses(UNKNOWN, "least(0, 3, 0) least(3, 0, 0) least(-1, 0, 0) least(0, -1, 0) least(3, 3, 0)"));
        Edge.sentence("OUTSIDE", () -> new Run(THREE).refuses(OUTSIDE, "least(0, 1, -1) least(0, 1, 5)"));
        Edge.sentence("NOT: they are one", () -> new Run(THREE + "gone(1)").refuses(NOT, "least(0, 0, 0) least(1, 1, 4)"));
        Edge.sentence("or not TOGETHER", MeetingsEdges::leastOfApart);
        Edge.sentence("(Also of what is GONE.)", () -> {
            new Run(THREE + "gone(0)").dueAll("least(0, 1, *)", 25, 1, 5, 0, 1).dueAll("least(1, 0, *)", 25, 1, 5, 0, 1);
            new Run(THREE + "gone(0) gone(1)").dueAll("least(0, 1, *)", 25, 1, 5, 0, 1);
            new Run(THREE + "breaks(0, 6, 2)").dueAll("least(0, 1, *)", 25, 1, 5, 0, 1).due("least(0, 3, 2)", 6);
        });
    }

    private static void leastEach() {
        // The gap goes from (-1, -1, -1) to (0, 1, 2): 3 less 36 / 14, at 6 / 14 of the way.
        new Run("thing(10, 0, 0, 0, 0) place(0, 1, 2, 3) thing(10, 1, 1, 1, 0) place(1, 1, 1, 1)")
            .dueAll("least(0, 1, *)", 3, 7, 10, 3, 7).dueAll("least(1, 0, *)", 3, 7, 10, 3, 7);
        // As far as places can be, with the greatest lower number but one.
        new Run("thing(38, -5000, -5000, -5000, 0) place(0, 5000, 5000, 5000) thing(38, 5000, 5000, 5000, 0) "
            + "place(1, -5000, -5000, -5000)").dueAll("least(0, 1, *)", 0, 1, 38, 1, 2);
        new Run("thing(38, -5000, -5000, -5000, 0) place(0, 5000, 5000, 5000) thing(38, 5000, 5000, 5000, 0) "
            + "place(1, -5000, -5000, -4999)").dueAll("least(0, 1, *)", 200000000L, 1199960001L, 38, 599990000L, 1199960001L);
    }

    private static void leastWithoutAFraction() {
        new Run("thing(39, 5000, 5000, 5000, 0) thing(39, -5000, -5000, -5000, 0)")
            .dueAll("least(0, 1, *)", 300000000, 1, 39, 0, 1);
        new Run("thing(0, 0, 0, 0, 0) place(0, 0, 0, 0) thing(0, 4, 0, 0, 0) place(1, 3, 0, 0)")
            .dueAll("least(0, 1, *)", 9, 1, 1, 0, 1);
        new Run("thing(0, 0, 0, 0, 0) place(0, 0, 0, 0) thing(0, 3, 0, 0, 0) place(1, 4, 0, 0)")
            .dueAll("least(0, 1, *)", 9, 1, 0, 0, 1);
        new Run("thing(0, 0, 0, 0, 0) place(0, 5, 0, 0) thing(0, 3, 0, 0, 0) place(1, 8, 0, 0)")
            .dueAll("least(0, 1, *)", 9, 1, 0, 0, 1);
    }

    private static void leastOfApart() {
        new Run(THREE).refuses(NOT, "least(0, 2, 0) least(2, 0, 4)");
        new Run("thing(5, 0, 0, 0, 0) place(0, 0, 0, 0) thing(7, 0, 0, 0, 0) thing(4, 0, 0, 0, 0)")
            .refuses(NOT, "least(0, 1, 0) least(1, 0, 0) least(0, 2, 0) least(2, 0, 0)")
            .does("place(0, 0, 1, 0) place(2, 0, 2, 0)").due("least(0, 1, 0) least(1, 0, 2)", 1, 7)
            .due("least(0, 2, 0) least(2, 0, 2)", 4, 5);
    }

    private static void meeting() {
        Edge.in("Promise 12: meeting");
        Edge.sentence("MEETING i: what = 0, 1 its THINGS", () -> new Run("").does(16, "thing(0, 0, 0, 0, 0)")
            .due("meeting(0, 0) meeting(0, 1) meeting(119, 0) meeting(119, 1)", 0, 1, 14, 15));
        Edge.sentence("NONE: there is none such.", () -> {
            new Run("").due("meeting(0, 0) meeting(0, 1) meeting(-1, 0)", NONE, NONE, NONE);
            new Run(THREE).due("meeting(0, 0) meeting(0, 1)", 0, 1)
                .due("meeting(1, 0) meeting(1, 1) meeting(-1, 0) meeting(-1, 1)", NONE, NONE, NONE, NONE)
                .due("meeting(MIN, 0) meeting(MAX, 1)", NONE, NONE)
                .does("gone(1)").due("meeting(0, 0) meeting(0, 1)", NONE, NONE);
        });
        Edge.sentence("OUTSIDE: what.", () -> {
            new Run("").refuses(OUTSIDE, "meeting(0, -1) meeting(0, 2)");
            new Run(THREE).refuses(OUTSIDE, "meeting(0, -1) meeting(0, 2) meeting(1, 2) meeting(-1, -1)");
        });
    }

    private static void share() {
        Edge.in("Promise 13: share");
        Edge.sentence("SHARE of two THINGS at a STEP: what = 0 the upper number, 1 the lower one.", MeetingsEdges::shareEach);
        Edge.sentence("UNKNOWN", () -> new Run(THREE)
            .refuses(UNKNOWN, "share(0, 3, 5, 0) share(3, 0, 5, 0) share(-1, 0, 5, 0) share(0, -1, 5, 0) share(3, 3, 5, 0)"));
        Edge.sentence("OUTSIDE", () -> new Run(THREE)
            .refuses(OUTSIDE, "share(0, 1, 5, -1) share(0, 1, 5, 2) share(0, 1, -1, 0) share(0, 1, 40, 0)"));
        Edge.sentence("NOT: they are one", () -> new Run(THREE + "gone(1)")
            .refuses(NOT, "share(0, 0, 5, 0) share(1, 1, 5, 1)"));
        Edge.sentence("or one has no PLACE there.", () -> new Run(THREE)
            .refuses(NOT, "share(0, 1, 6, 0) share(1, 0, 6, 1) share(0, 1, 4, 0) share(0, 1, 7, 0) share(0, 2, 9, 0) "
                + "share(0, 1, 0, 0) share(0, 1, 39, 0)"));
    }

    private static void shareEach() {
        Run r = new Run(THREE + "rule(1, 2)");
        // Cells -1 .. 1 against 2 .. 4 and 3 .. 5: 3 and 1 pairs of 9 that are 2 apart at most; all of 9 in z.
        r.due("share(0, 1, 5, 0) share(0, 1, 5, 1) share(1, 0, 5, 0) share(1, 0, 5, 1)", 1, 27, 1, 27);
        new Run("thing(0, 0, 0, 0, 0) thing(39, 0, 0, 0, 0) thing(0, 0, 0, 0, 0) thing(39, 0, 0, 0, 0)")
            .due("share(0, 2, 0, 0) share(0, 2, 0, 1) share(1, 3, 39, 0) share(1, 3, 39, 1)", 1, 1, 1, 1);
        // The largest numbers: 1201 of 160801 pairs along each axis.
        new Run("thing(0, 0, 0, 0, 200) thing(0, 0, 0, 0, 200) rule(1, 1)")
            .due("share(0, 1, 0, 0) share(0, 1, 0, 1)", 1201L * 1201 * 1201, 160801L * 160801 * 160801);
    }
}
