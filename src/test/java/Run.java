import java.util.ArrayList;
import java.util.Arrays;
import java.util.List;

/** A run of calls on a new object, each held against the answer that is due. */
final class Run {
    private static final int MOST_CALLS = 512, CALLS_OF_A_LOOK = 200, LEAST_REFUSAL = -100004, MOST_REFUSAL = -100001;
    private static final List<Call> QUESTIONS = questions();

    private final MeetingsAbove m = new MeetingsAbove();
    private final List<Call> changes = new ArrayList<>();
    private int calls = 0;

    /** Begins with calls that are none of them refused. */
    Run(String scene) {
        does(scene);
    }

    Run does(String text) {
        for (Call call : Call.read(text)) {
            long got = make(call);
            Due.holds(text + " is not refused", got < LEAST_REFUSAL || got > MOST_REFUSAL);
        }
        return this;
    }

    Run does(int times, String text) {
        for (int i = 0; i < times; i++) {
            does(text);
        }
        return this;
    }

    /** The answers of one call, or of several in a row. */
    Run due(String text, long... want) {
        List<Call> all = Call.read(text);
        Due.is("answers asked for by " + text, all.size(), want.length);
        for (int i = 0; i < want.length && i < all.size(); i++) {
            Due.is(text + (want.length > 1 ? " at " + i : ""), make(all.get(i)), want[i]);
        }
        return this;
    }

    /** What one call answers, whatever it is. */
    long asks(String name, int... a) {
        return make(new Call(name, a));
    }

    /** The answers of calls whose last number is asked for from 0 on: "told(0, *)". */
    Run dueAll(String text, long... want) {
        for (int i = 0; i < want.length; i++) {
            due(text.replace("*", "" + i), want[i]);
        }
        return this;
    }

    /** Each of the calls is answered so, and leaves all as it was. */
    Run refuses(long want, String text) {
        List<Call> all = Call.read(text);
        Due.holds("calls to refuse", !all.isEmpty());
        for (Call call : all) {
            String name = call.text();
            Due.is(name, make(call), want);
            changesNothing(name, call);
        }
        return this;
    }

    private long make(Call call) {
        calls++;
        Due.holds("an object is used for at most " + MOST_CALLS + " calls", calls <= MOST_CALLS);
        long got = call.on(m);
        boolean isRefused = got >= LEAST_REFUSAL && got <= MOST_REFUSAL;
        if (call.changes() && !isRefused) {
            changes.add(call);
        }
        return got;
    }

    /** Looks at one object with the call and one without it, both made anew for each part of the look. */
    private void changesNothing(String name, Call refused) {
        Due.holds("calls are left to look", changes.size() + 1 + CALLS_OF_A_LOOK <= MOST_CALLS);
        for (int i = 0; i < QUESTIONS.size(); i += CALLS_OF_A_LOOK) {
            MeetingsAbove without = again();
            MeetingsAbove with = again();
            refused.on(with);
            for (Call asked : QUESTIONS.subList(i, Math.min(i + CALLS_OF_A_LOOK, QUESTIONS.size()))) {
                long was = asked.on(without);
                long is = asked.on(with);
                if (was != is) {
                    Due.is(name + " was refused, but then " + asked.text(), is, was);
                }
            }
        }
    }

    private MeetingsAbove again() {
        MeetingsAbove made = new MeetingsAbove();
        for (Call call : changes) {
            call.on(made);
        }
        return made;
    }

    /** All that can be asked of what an object holds. */
    private static List<Call> questions() {
        List<Call> all = new ArrayList<>();
        ask(all, "count", 10);
        ask(all, "differs", 2);
        for (int t = 0; t < 16; t++) {
            ask(all, "told", 5, t);
            for (int step = 0; step < 40; step++) {
                ask(all, "at", 3, t, step);
            }
        }
        for (int d = 0; d < 40; d++) {
            ask(all, "dotted", 2, d);
        }
        for (int n = 0; n < 40; n++) {
            ask(all, "noticed", 8, n);
        }
        // These come last, as they change what they tell.
        all.add(new Call("rule", 0, 50));
        all.add(new Call("rule", 1, 20));
        return all;
    }

    private static void ask(List<Call> all, String name, int whats, int... ahead) {
        for (int what = 0; what < whats; what++) {
            int[] a = Arrays.copyOf(ahead, ahead.length + 1);
            a[ahead.length] = what;
            all.add(new Call(name, a));
        }
    }
}
