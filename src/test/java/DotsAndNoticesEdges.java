/** The boundary cases that promises 16 to 20 name. */
final class DotsAndNoticesEdges {
    private static final int UNKNOWN = MeetingsAbove.UNKNOWN, OUTSIDE = MeetingsAbove.OUTSIDE;
    private static final int NOT = MeetingsAbove.NOT, FULL = MeetingsAbove.FULL, NONE = MeetingsAbove.NONE;
    /** Two that meet, one that meets none, and one that is gone. */
    private static final String FOUR =
        "thing(5, 0, 0, 0, 1) thing(5, 3, 4, 0, 1) thing(5, 0, 0, 900, 0) thing(5, 0, 0, 0, 0) gone(3) ";

    private DotsAndNoticesEdges() {
    }

    static void all() {
        dot();
        dotted();
        notice();
        answer();
        noticed();
    }

    private static void dot() {
        Edge.in("Promise 16: dot");
        Edge.sentence("A DOT: its number.", () -> {
            Run r = new Run("");
            for (int d = 0; d < 40; d++) {
                r.due("dot(" + d + ", 5000, -5000, 5000) count(3)", d, d + 1);
            }
        });
        Edge.sentence("OUTSIDE", () -> new Run("dot(0, 0, 0, 0)")
            .refuses(OUTSIDE, "dot(-1, 0, 0, 0) dot(40, 0, 0, 0) dot(0, 5001, 0, 0) dot(0, -5001, 0, 0) dot(0, 0, 5001, 0) "
                + "dot(0, 0, -5001, 0) dot(0, 0, 0, 5001) dot(0, 0, 0, -5001)")
            .due("dot(0, 5000, 5000, 5000) dot(39, -5000, -5000, -5000)", 1, 2));
        Edge.sentence("FULL.", () -> new Run("").does(39, "dot(0, 0, 0, 0)").due("dot(0, 0, 0, 0)", 39)
            .refuses(FULL, "dot(0, 0, 0, 0) dot(39, 5000, 5000, 5000)").due("count(3)", 40));
    }

    private static void dotted() {
        Edge.in("Promise 17: dotted");
        Edge.sentence("what = 0 how many THINGS it is OF", () -> {
            Run r = new Run("dot(39, 5000, 5000, 5000)").due("dotted(0, 0)", 0);
            for (int n = 1; n <= 16; n++) {
                r.does("thing(39, 4800, 5000, 5000, 200)").due("dotted(0, 0)", n);
            }
        });
        Edge.sentence("1 the least of them (NONE)", () -> {
            Run r = new Run("dot(5, 0, 0, 0)").due("dotted(0, 0) dotted(0, 1)", 0, NONE);
            r.does(FOUR).due("dotted(0, 0) dotted(0, 1)", 1, 0).does("thing(5, 0, 0, 0, 0) gone(0)");
            r.due("dotted(0, 0) dotted(0, 1)", 1, 4).does("gone(4)").due("dotted(0, 0) dotted(0, 1)", 0, NONE);
        });
        Edge.sentence("UNKNOWN", () -> {
            new Run("").refuses(UNKNOWN, "dotted(0, 0)");
            new Run("dot(0, 0, 0, 0)").refuses(UNKNOWN, "dotted(-1, 0) dotted(1, 0)");
            new Run("").does(40, "dot(0, 0, 0, 0)").refuses(UNKNOWN, "dotted(40, 0)").due("dotted(39, 0)", 0);
        });
        Edge.sentence("OUTSIDE.", () -> new Run("dot(0, 0, 0, 0)").refuses(OUTSIDE, "dotted(0, -1) dotted(0, 2)"));
    }

    private static void notice() {
        Edge.in("Promise 18: notice");
        Edge.sentence("A NOTICE of two THINGS: its number.", () -> {
            Run r = new Run(FOUR);
            for (int n = 0; n < 40; n++) {
                r.due(n % 2 == 0 ? "notice(0, 1) count(7)" : "notice(1, 0) count(7)", n, n + 1);
            }
        });
        Edge.sentence("UNKNOWN", () -> {
            new Run("").refuses(UNKNOWN, "notice(0, 0) notice(0, 1)");
            new Run(FOUR).refuses(UNKNOWN, "notice(0, 4) notice(4, 0) notice(-1, 0) notice(0, -1) notice(4, 4)");
        });
        Edge.sentence("NOT: they are one", () -> new Run(FOUR).refuses(NOT, "notice(0, 0) notice(3, 3)"));
        Edge.sentence("or do not MEET", DotsAndNoticesEdges::noticeOfApart);
        Edge.sentence("FULL.", () -> new Run(FOUR + "thing(5, 0, 0, 0, 0)").does(39, "notice(0, 1)").due("notice(1, 4)", 39)
            .refuses(FULL, "notice(0, 1) notice(1, 0) notice(0, 4)")
            .due("noticed(38, 4) noticed(39, 4) count(7) count(8)", 1, 1, 40, 2));
    }

    private static void noticeOfApart() {
        // Far off; gone; never there together; just NEAR.
        new Run(FOUR + "thing(6, 0, 0, 0, 0)").refuses(NOT, "notice(0, 2) notice(2, 0) notice(0, 3) notice(3, 0) notice(0, 4)")
            .does("rule(0, 5)").refuses(NOT, "notice(0, 1)").does("rule(0, 6)").due("notice(0, 1)", 0);
    }

    private static void answer() {
        Edge.in("Promise 19: answer");
        Edge.sentence("An ANSWER (1, 2) of THING t to NOTICE n: 1", () -> new Run(FOUR + "notice(1, 0)")
            .due("answer(0, 0, 1) noticed(0, 5) noticed(0, 6)", 1, 1, 0)
            .due("answer(0, 1, 2) noticed(0, 5) noticed(0, 6)", 1, 1, 2)
            .due("answer(0, 0, 2) answer(0, 1, 1) noticed(0, 5) noticed(0, 6) count(9)", 1, 1, 2, 1, 0)
            .does("gone(0)").due("answer(0, 0, 1) noticed(0, 5)", 1, 1));
        Edge.sentence("0: it is LATE.", () -> new Run(FOUR + "notice(0, 1) notice(0, 1)")
            .due("answer(0, 0, 1) answer(0, 1, 2) count(9)", 0, 0, 2).due("noticed(0, 5) noticed(0, 6)", 0, 0)
            .due("noticed(1, 5) noticed(1, 6) answer(1, 0, 1) count(9)", 0, 0, 1, 2));
        Edge.sentence("UNKNOWN (n, t)", () -> {
            new Run(FOUR).refuses(UNKNOWN, "answer(0, 0, 1)");
            new Run(FOUR + "notice(0, 1)")
                .refuses(UNKNOWN, "answer(-1, 0, 1) answer(1, 0, 1) answer(0, -1, 1) answer(0, 4, 1) answer(1, 4, 1)");
            new Run(FOUR).does(40, "notice(0, 1)").refuses(UNKNOWN, "answer(40, 0, 1)").due("answer(39, 0, 1)", 1);
        });
        Edge.sentence("OUTSIDE", () -> {
            new Run(FOUR + "notice(0, 1)").refuses(OUTSIDE, "answer(0, 0, 0) answer(0, 0, 3) answer(0, 1, -1)");
            new Run(FOUR + "notice(0, 1) notice(0, 1)").refuses(OUTSIDE, "answer(0, 0, 0) answer(0, 0, 3)").due("count(9)", 0);
        });
        Edge.sentence("NOT: it is not of THING t.", () -> {
            new Run(FOUR + "notice(0, 1)").refuses(NOT, "answer(0, 2, 1) answer(0, 3, 2)");
            new Run(FOUR + "notice(0, 1) notice(0, 1)").refuses(NOT, "answer(0, 2, 1) answer(1, 2, 1)").due("count(9)", 0);
        });
    }

    private static void noticed() {
        Edge.in("Promise 20: noticed");
        Edge.sentence("what = 0, 1 its THINGS (the lesser first), 2 THE LEAST, 3 the STEP, 4 whether it HOLDS, "
            + "5, 6 the ANSWERS, 7 the NOTICE that it supersedes (NONE)", DotsAndNoticesEdges::noticedEach);
        Edge.sentence(". UNKNOWN", () -> {
            new Run(FOUR).refuses(UNKNOWN, "noticed(0, 0)");
            new Run(FOUR + "notice(0, 1)").refuses(UNKNOWN, "noticed(-1, 0) noticed(1, 0)");
            new Run(FOUR).does(40, "notice(0, 1)").refuses(UNKNOWN, "noticed(40, 0)").due("noticed(39, 7)", 38);
        });
        Edge.sentence("OUTSIDE.", () -> new Run(FOUR + "notice(0, 1)").refuses(OUTSIDE, "noticed(0, -1) noticed(0, 8)"));
    }

    private static void noticedEach() {
        Run r = new Run(FOUR + "notice(1, 0)").dueAll("noticed(0, *)", 0, 1, 25, 5, 1, 0, 0, NONE);
        r.does("answer(0, 0, 1) notice(0, 1) answer(1, 1, 2)");
        r.dueAll("noticed(0, *)", 0, 1, 25, 5, 0, 1, 0, NONE).dueAll("noticed(1, *)", 0, 1, 25, 5, 1, 0, 2, 0);
        // At the last step, with the greatest numbers, and with THE LEAST as great as it can be.
        r = new Run("rule(0, 3000)").does(14, "thing(0, 5000, 5000, 5000, 0)");
        r.does("thing(39, 0, 0, 0, 0) thing(39, 2999, 77, 8, 0) notice(15, 14)");
        r.dueAll("noticed(0, *)", 14, 15, 2999 * 2999 + 77 * 77 + 8 * 8, 39, 1, 0, 0, NONE);
    }
}
