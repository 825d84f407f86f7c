import java.util.Arrays;
import java.util.Random;

/** Long runs of calls, the same ones in every run of this test, each answer held against PlainModel's. */
public final class AgainstPlainModelTest {
    private static final int RUNS = 600, CALLS = 200, SCENES = 400;
    private static final String[] NAMES = {
        "thing", "place", "gone", "breaks", "rule", "told", "at", "count", "sieve", "least", "meeting", "share", "best",
        "burn", "dot", "dotted", "notice", "answer", "noticed", "keep", "differs"};
    private static final int[] WEIGHTS = {10, 22, 1, 1, 3, 6, 4, 5, 8, 12, 4, 6, 9, 6, 6, 5, 8, 6, 6, 1, 2};
    private static final int[] WILD = {-1, -2, 3, 5, 7, 10, 16, 39, 40, 41, 200, 201, 5000, 5001, -5000, -5001,
        Integer.MAX_VALUE, Integer.MIN_VALUE, Integer.MAX_VALUE - 1};

    private final Random random;
    private final MeetingsAbove real = new MeetingsAbove();
    private final PlainModel model = new PlainModel();
    private final int spread;
    private final int firstSteps;
    private final int lowestStep;
    private final int mostThings;

    private AgainstPlainModelTest(int seed) {
        random = new Random(seed);
        spread = new int[] {6, 12, 20, 60, 200, 1000, 5000}[random.nextInt(7)];
        firstSteps = new int[] {1, 3, 8, 20}[random.nextInt(4)];
        lowestStep = random.nextInt(4) == 0 ? 40 - firstSteps - random.nextInt(12) : 0;
        // With few things, that there are and come near each other, burns are found that need more fuel.
        mostThings = new int[] {2, 3, 5, 16, 17}[random.nextInt(5)];
    }

    public static void main(String[] args) {
        for (int seed = 0; seed < RUNS; seed++) {
            new AgainstPlainModelTest(seed).run(seed);
        }
        for (int seed = 0; seed < SCENES; seed++) {
            new AgainstPlainModelTest(seed).burnScene(seed);
        }
        Due.end();
    }

    private void run(int seed) {
        for (int i = 0; i < CALLS; i++) {
            int call = nextCall(i);
            if (NAMES[call].equals("thing") && model.count(0) >= mostThings) {
                call = nextCall(CALLS);
            }
            int[] a = arguments(NAMES[call]);
            if (random.nextInt(25) == 0 && a.length > 0) {
                a[random.nextInt(a.length)] = WILD[random.nextInt(WILD.length)];
            }
            String text = "run " + seed + ", call " + i + ": " + NAMES[call] + Arrays.toString(a);
            Due.is(text, real(NAMES[call], a), plain(NAMES[call], a));
        }
    }

    private void both(String text, String name, int... a) {
        Due.is(text + name + Arrays.toString(a), real(name, a), plain(name, a));
    }

    /** One thing on its way, others that stand close about it late: burns that need their fuel. */
    private void burnScene(int seed) {
        String text = "scene " + seed + ": ";
        int places = 2 + random.nextInt(11);
        int[] at = {random.nextInt(9) - 4, random.nextInt(9) - 4, random.nextInt(20) == 0 ? 4995 : 0};
        both(text, "rule", 0, 2 + random.nextInt(places + 6));
        both(text, "thing", 0, at[0], at[1], at[2], 0);
        for (int i = 1; i < places; i++) {
            at[0] += random.nextInt(5);
            at[1] += random.nextInt(3) - 1;
            both(text, "place", 0, at[0], at[1], at[2]);
        }
        int others = 1 + random.nextInt(5);
        for (int i = 1; i <= others; i++) {
            int step = places - 1 - random.nextInt(Math.min(places, 2));
            int[] near = {model.at(0, step, 0), model.at(0, step, 1), model.at(0, step, 2)};
            for (int k = 0; k < 2; k++) {
                near[random.nextInt(3)] += random.nextInt(21) - 10;
            }
            both(text, "thing", step, near[0], near[1], Math.min(near[2], 5000), 0);
        }
        for (int what = 0; what <= 4; what++) {
            both(text, "best", 0, 0, what);
            both(text, "best", 0, places / 2, what);
        }
        both(text, "burn", 0, Math.max(0, model.best(0, 0, 1)),
            model.best(0, 0, 2), model.best(0, 0, 3), model.best(0, 0, 4));
        both(text, "told", 0, 4);
    }

    private int nextCall(int i) {
        int pick = random.nextInt(Arrays.stream(WEIGHTS).sum());
        // At first there are things to come.
        if (i < 20) {
            pick = pick % 32;
        }
        int call = 0;
        while (pick >= WEIGHTS[call]) {
            pick -= WEIGHTS[call];
            call++;
        }
        return call;
    }

    private int coord() {
        int c = random.nextInt(2 * spread + 1) - spread;
        return random.nextInt(40) == 0 ? (random.nextBoolean() ? 5000 : -5000) + random.nextInt(3) - 1 : c;
    }

    private int thing() {
        return random.nextInt(Math.max(1, model.count(0)) + (random.nextInt(15) == 0 ? 1 : 0));
    }

    private int stepOf(int t) {
        int first = Math.max(0, model.told(t, 0));
        return first + random.nextInt(Math.max(1, model.told(t, 1)) + 1) - random.nextInt(15) / 14;
    }

    private int step() {
        return Math.min(40, lowestStep + random.nextInt(firstSteps + 1));
    }

    private int[] arguments(String name) {
        int t = thing();
        switch (name) {
            case "thing": return new int[] {step(), coord(), coord(), coord(), random.nextInt(Math.min(201, spread))};
            case "place": return new int[] {t, coord(), coord(), coord()};
            case "gone": return new int[] {t};
            case "breaks": return new int[] {t, stepOf(t), 1 + random.nextInt(6)};
            case "rule": return random.nextBoolean()
                ? new int[] {0, random.nextInt(Math.min(3001, 2 * spread))} : new int[] {1, random.nextInt(60)};
            case "told": return new int[] {t, random.nextInt(5)};
            case "at": return new int[] {t, stepOf(t), random.nextInt(3)};
            case "count": return new int[] {random.nextInt(10)};
            case "sieve": case "notice": return new int[] {t, thing()};
            case "least": return new int[] {t, thing(), random.nextInt(5)};
            case "meeting": return new int[] {random.nextInt(12) - 1, random.nextInt(2)};
            case "share": return new int[] {t, thing(), stepOf(t), random.nextInt(2)};
            case "best": return new int[] {t, stepOf(t), random.nextInt(5)};
            case "burn": return new int[] {t, stepOf(t), random.nextInt(5) - 2, random.nextInt(5) - 2, random.nextInt(5) - 2};
            case "dot": return new int[] {stepOf(t), coord(), coord(), coord()};
            case "dotted": return new int[] {random.nextInt(Math.max(1, model.count(3))), random.nextInt(2)};
            case "answer": return answerArguments();
            case "noticed": return new int[] {random.nextInt(Math.max(1, model.count(7))), random.nextInt(8)};
            default: return new int[] {random.nextInt(2)};
        }
    }

    private int[] answerArguments() {
        int n = random.nextInt(Math.max(1, model.count(7)));
        int t = random.nextInt(6) == 0 ? thing() : model.noticed(n, random.nextInt(2));
        return new int[] {n, t, 1 + random.nextInt(2)};
    }

    private long real(String name, int[] a) {
        return new Call(name, a).on(real);
    }

    private long plain(String name, int[] a) {
        switch (name) {
            case "thing": return model.thing(a[0], a[1], a[2], a[3], a[4]);
            case "place": return model.place(a[0], a[1], a[2], a[3]);
            case "gone": return model.gone(a[0]);
            case "breaks": return model.breaks(a[0], a[1], a[2]);
            case "rule": return model.rule(a[0], a[1]);
            case "told": return model.told(a[0], a[1]);
            case "at": return model.at(a[0], a[1], a[2]);
            case "count": return model.count(a[0]);
            case "sieve": return model.sieve(a[0], a[1]);
            case "least": return model.least(a[0], a[1], a[2]);
            case "meeting": return model.meeting(a[0], a[1]);
            case "share": return model.share(a[0], a[1], a[2], a[3]);
            case "best": return model.best(a[0], a[1], a[2]);
            case "burn": return model.burn(a[0], a[1], a[2], a[3], a[4]);
            case "dot": return model.dot(a[0], a[1], a[2], a[3]);
            case "dotted": return model.dotted(a[0], a[1]);
            case "notice": return model.notice(a[0], a[1]);
            case "answer": return model.answer(a[0], a[1], a[2]);
            case "noticed": return model.noticed(a[0], a[1]);
            case "keep": return model.keep(a[0]);
            default: return model.differs(a[0]);
        }
    }
}
