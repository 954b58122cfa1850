import java.io.IOException;
import java.nio.file.Files;
import java.nio.file.Path;
import java.util.ArrayList;
import java.util.LinkedHashMap;
import java.util.List;
import java.util.Map;
import java.util.regex.Matcher;
import java.util.regex.Pattern;

/** The document by sections, and which of its words a test has quoted. */
final class Doc {
    private static final Path FILE = Path.of("../shared/DOC.md");
    // Words by which a sentence names a boundary case: too small, too large, empty, full, a wrap-around, a refused call.
    private static final Pattern EDGE = Pattern.compile("\\d+ \\.\\. (\\d+|n)|-1[1-4]\\b|\\b(at most|at first|BAD|FULL|STATE|NOT|VOID"
            + "|MIN_VALUE|none|nothing|never|only|alone|least|greatest|fewest|most|first|last|latest|else|below|above|behind|ahead"
            + "|earlier|wraps?|by 0|toward 0|from 0|0 on|less 1|ends|missing|empty|too|early|same|whatever|Without|lacks|no such)\\b");

    private final Map<String, String> sections = new LinkedHashMap<>();
    private final Map<String, boolean[]> quoted = new LinkedHashMap<>();

    Doc() throws IOException {
        String name = "";
        for (String row : Files.readAllLines(FILE)) {
            name = sectionOf(row, name);
            if (!row.startsWith("```") && !row.startsWith("#")) {
                sections.merge(name, row.strip(), (a, b) -> (a + " " + b).strip());
            }
        }
        sections.replaceAll((section, text) -> text.replaceAll("\\s+", " "));
        sections.forEach((section, text) -> quoted.put(section, new boolean[text.length()]));
    }

    private static String sectionOf(String row, String name) {
        if (row.startsWith("## ")) {
            return row.substring(3).replaceAll(":.*", "");
        }
        if (row.matches("======== \\d .*")) {
            return "Terms " + row.charAt(9);
        }
        if (row.startsWith("Answers, of several")) {
            return "Answers";
        }
        return row.startsWith("======== SO THAT") ? "Two ways" : name;
    }

    /** Whether these words stand in a section; they count as quoted then. */
    boolean quote(String section, String words) {
        String text = sections.getOrDefault(section, "");
        int from = text.indexOf(words);
        boolean found = from >= 0;
        while (from >= 0) {
            for (int i = from; i < from + words.length(); i++) {
                quoted.get(section)[i] = true;
            }
            from = text.indexOf(words, from + 1);
        }
        return found;
    }

    /** What names a boundary case in the terms and the promises, and was quoted by no test. */
    List<String> unquoted() {
        List<String> missing = new ArrayList<>();
        sections.forEach((section, text) -> {
            if (!section.matches("Terms \\d|Answers|Two ways|Promise \\d+")) {
                return;
            }
            Matcher m = EDGE.matcher(withoutHead(text));
            while (m.find()) {
                if (!quoted.get(section)[m.start()]) {
                    missing.add(section + ": .. " + text.substring(Math.max(0, m.start() - 30), Math.min(text.length(), m.end() + 30)) + " ..");
                }
            }
        });
        return missing;
    }

    // The head of a promise, its method, names no boundary case; what is behind it keeps its place.
    private static String withoutHead(String text) {
        int end = text.startsWith("`") ? text.indexOf('`', 1) + 1 : 0;
        return "-".repeat(end) + text.substring(end);
    }

    /** Promises of which no word was quoted. */
    List<String> untouched() {
        List<String> missing = new ArrayList<>();
        sections.forEach((section, text) -> {
            boolean any = false;
            for (boolean q : quoted.get(section)) {
                any |= q;
            }
            if (!any && section.startsWith("Promise ")) {
                missing.add(section);
            }
        });
        return missing;
    }
}
