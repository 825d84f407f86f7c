import java.util.ArrayList;
import java.util.Arrays;
import java.util.List;
import java.util.regex.Matcher;
import java.util.regex.Pattern;

/** One call of the class, as it can be read from a text such as "place(0, 5001, MIN, MAX)". */
record Call(String name, int... a) {
    private static final Pattern FORM = Pattern.compile("(\\w+)\\(([^)]*)\\)");
    private static final List<String> CHANGES =
        List.of("thing", "place", "gone", "breaks", "rule", "burn", "dot", "notice", "answer", "keep");

    static List<Call> read(String text) {
        List<Call> calls = new ArrayList<>();
        Matcher found = FORM.matcher(text);
        while (found.find()) {
            calls.add(new Call(found.group(1), numbers(found.group(2))));
        }
        return calls;
    }

    private static int[] numbers(String text) {
        String[] words = text.split(",");
        int[] all = new int[words.length];
        for (int i = 0; i < all.length; i++) {
            all[i] = number(words[i].trim());
        }
        return all;
    }

    private static int number(String word) {
        switch (word) {
            case "MIN": return Integer.MIN_VALUE;
            case "MAX": return Integer.MAX_VALUE;
            default: return Integer.parseInt(word);
        }
    }

    String text() {
        return name + Arrays.toString(a);
    }

    boolean changes() {
        return CHANGES.contains(name);
    }

    long on(MeetingsAbove m) {
        switch (name) {
            case "thing": return m.thing(a[0], a[1], a[2], a[3], a[4]);
            case "place": return m.place(a[0], a[1], a[2], a[3]);
            case "gone": return m.gone(a[0]);
            case "breaks": return m.breaks(a[0], a[1], a[2]);
            case "rule": return m.rule(a[0], a[1]);
            case "told": return m.told(a[0], a[1]);
            case "at": return m.at(a[0], a[1], a[2]);
            case "count": return m.count(a[0]);
            case "sieve": return m.sieve(a[0], a[1]);
            case "least": return m.least(a[0], a[1], a[2]);
            case "meeting": return m.meeting(a[0], a[1]);
            case "share": return m.share(a[0], a[1], a[2], a[3]);
            case "best": return m.best(a[0], a[1], a[2]);
            case "burn": return m.burn(a[0], a[1], a[2], a[3], a[4]);
            case "dot": return m.dot(a[0], a[1], a[2], a[3]);
            case "dotted": return m.dotted(a[0], a[1]);
            case "notice": return m.notice(a[0], a[1]);
            case "answer": return m.answer(a[0], a[1], a[2]);
            case "noticed": return m.noticed(a[0], a[1]);
            case "keep": return m.keep(a[0]);
            case "differs": return m.differs(a[0]);
            default: throw new IllegalArgumentException("there is no call " + name);
        }
    }
}
