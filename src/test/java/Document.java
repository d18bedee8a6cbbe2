import java.io.IOException;
import java.nio.charset.StandardCharsets;
import java.nio.file.Files;
import java.nio.file.Path;
import java.util.ArrayList;
import java.util.Arrays;
import java.util.LinkedHashMap;
import java.util.List;
import java.util.Map;
import java.util.Set;
import java.util.regex.Matcher;
import java.util.regex.Pattern;

/** The document's sections, and which of their words a test has quoted. */
final class Document {
    private static final Path FILE = Path.of("../shared/DOC.md");
    /** Sections that promise nothing by a boundary: the face is FormTest's. */
    private static final Set<String> LEFT_OUT = Set.of("The public face", "Not promised");
    /** By such words a sentence names a boundary case. */
    private static final Pattern NAMES_A_BOUNDARY = Pattern.compile("\\b(BAD|NULL|NOT|FULL|CAST|INDEX|STORE|SIZE|NONE|LOST|"
        + "FAULT|at most|up to|at first|least|fewest|fewer|greatest|highest|most|last|latest|first|none|no|not|nothing|empty|"
        + "till|as long as|less|lower|lowest|above|below|wrap|cut|any|each|all|alone|whatever|\\d+)\\b");

    private final Map<String, String> sections = new LinkedHashMap<>();
    private final Map<String, boolean[]> quoted = new LinkedHashMap<>();

    Document() throws IOException {
        for (String section : Files.readString(FILE, StandardCharsets.UTF_8).split("(?m)^## ")) {
            int end = section.indexOf('\n');
            String name = section.substring(0, Math.max(0, end)).replaceAll(":.*", "");
            if (section.startsWith("#") || name.isEmpty() || LEFT_OUT.contains(name)) continue;
            String words = bare(section.substring(end));
            sections.put(name, words);
            quoted.put(name, new boolean[words.length()]);
        }
    }

    /** Without what isn't a sentence: the tale that the document begins with, signatures, fences, numbers of parts, and which calls stand under which heading. */
    private static String bare(String section) {
        return section.replaceAll("An ice house: .*(?=========)", "").replaceAll("(?m)^`(int|long|IceHouse)\\b[^`]*`: ", "").replaceAll("```\\w*", "")
            .replaceAll("(?m)^Ahead of the calls.*$", "").replaceAll("======== \\d+", "").replaceAll("\\s+", " ").strip();
    }

    /** Whether the words stand in the section; they are quoted then, wherever they stand in it. */
    boolean quote(String section, String words) {
        String text = sections.getOrDefault(section, "");
        int place = text.indexOf(words);
        for (int at = place; at >= 0; at = text.indexOf(words, at + 1))
            Arrays.fill(quoted.get(section), at, at + words.length(), true);
        return place >= 0;
    }

    /** Every place at which the document names a boundary case in words that no test has quoted. */
    List<String> left() {
        List<String> left = new ArrayList<>();
        for (Map.Entry<String, String> section : sections.entrySet()) {
            String text = section.getValue();
            Matcher named = NAMES_A_BOUNDARY.matcher(text);
            while (named.find())
                if (!quoted.get(section.getKey())[named.start()])
                    left.add(section.getKey() + ": .. " + text.substring(Math.max(0, named.start() - 30),
                        Math.min(text.length(), named.end() + 30)) + " ..");
        }
        return left;
    }
}
