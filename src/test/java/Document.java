import java.io.IOException;
import java.nio.file.Files;
import java.nio.file.Path;
import java.util.ArrayList;
import java.util.LinkedHashMap;
import java.util.List;
import java.util.Map;
import java.util.regex.Matcher;
import java.util.regex.Pattern;

/** The document by its headings, and which of its words have been asked for. */
final class Document {
    /** Words that name a boundary: refusals, what is due when there is none, bounds. */
    private static final Pattern BOUNDARY = Pattern.compile(
        "\\b(UNKNOWN|OUTSIDE|NOT|FULL|NONE|LATE|empty|none|below|at most|at first|or more|just one|several)\\b"
        + "|-?\\d+ \\.\\. \\d+");
    private static final Pattern TESTED = Pattern.compile("Terms|Promise \\d+: .*");

    private final Map<String, String> parts = new LinkedHashMap<>();
    private final Map<String, boolean[]> asked = new LinkedHashMap<>();

    Document(Path file) throws IOException {
        for (String part : Files.readString(file).split("(?m)^## ")) {
            int end = part.indexOf('\n');
            String heading = end < 0 ? part : part.substring(0, end);
            String text = end < 0 ? "" : part.substring(end).replaceAll("\\s+", " ");
            parts.put(heading.trim(), text);
            asked.put(heading.trim(), new boolean[text.length()]);
        }
    }

    boolean says(String heading, String words) {
        String text = parts.getOrDefault(heading, "");
        int at = text.indexOf(words);
        for (int i = at; at >= 0 && i < at + words.length(); i++) {
            asked.get(heading)[i] = true;
        }
        return at >= 0;
    }

    List<String> boundariesLeftOut() {
        List<String> left = new ArrayList<>();
        for (String heading : parts.keySet()) {
            Matcher found = BOUNDARY.matcher(parts.get(heading));
            while (TESTED.matcher(heading).matches() && found.find()) {
                if (!asked.get(heading)[found.start()]) {
                    left.add(heading + ", " + around(parts.get(heading), found.start(), found.end()));
                }
            }
        }
        return left;
    }

    private static String around(String text, int from, int to) {
        return "\"" + text.substring(Math.max(0, from - 30), Math.min(text.length(), to + 30)) + "\"";
    }
}
