import java.io.IOException;
import java.nio.charset.StandardCharsets;
import java.nio.file.Files;
import java.nio.file.Path;
import java.util.ArrayList;
import java.util.Arrays;
import java.util.LinkedHashMap;
import java.util.List;
import java.util.Map;
import java.util.Set;
import java.util.regex.Matcher;
import java.util.regex.Pattern;

/** The document's sections, and which of their words a test has quoted. */
final class Document {
    private static final Path FILE = Path.of("../shared/DOC.md");
    /** The face is FormTest's. */
    private static final Set<String> LEFT_OUT = Set.of("The public face", "Not promised");
    private static final Pattern WORD = Pattern.compile("\\w+");

    private final Map<String, String> sections = new LinkedHashMap<>();
    private final Map<String, boolean[]> quoted = new LinkedHashMap<>();

    Document() throws IOException {
        for (String section : Files.readString(FILE, StandardCharsets.UTF_8).split("(?m)^## ")) {
            int end = section.indexOf('\n');
            String name = section.substring(0, Math.max(0, end)).replaceAll(":.*", "");
            if (section.startsWith("#") || name.isEmpty() || LEFT_OUT.contains(name)) continue;
            String words = bare(section.substring(end));
            sections.put(name, words);
            quoted.put(name, new boolean[words.length()]);
        }
    }

    /** Without what holds the class to nothing: the tale at the beginning, signatures, headings, what is free. */
    private static String bare(String section) {
        return section.replaceAll("An ice house: .*(?=========)", "").replaceAll("======== \\d+", "")
            .replaceAll("(?m)^`(int|long|IceHouse)\\b[^`]*`: ", "").replaceAll("```\\w*", "")
            .replaceAll("(?m)^Ahead of the calls.*$", "").replace("; what later calls answer is free.", "")
            .replaceAll("\\s+", " ").strip();
    }

    /** Whether the words stand in the section; they are quoted then, wherever they stand in it. */
    boolean quote(String section, String words) {
        String text = sections.getOrDefault(section, "");
        int place = text.indexOf(words);
        for (int at = place; at >= 0; at = text.indexOf(words, at + 1))
            Arrays.fill(quoted.get(section), at, at + words.length(), true);
        return place >= 0;
    }

    /** Every word that stands in no sentence that a test has quoted, with what stands around it. */
    List<String> left() {
        List<String> left = new ArrayList<>();
        for (Map.Entry<String, String> section : sections.entrySet()) {
            String text = section.getValue();
            Matcher word = WORD.matcher(text);
            while (word.find())
                if (!quoted.get(section.getKey())[word.start()])
                    left.add(section.getKey() + ": .. " + text.substring(Math.max(0, word.start() - 30),
                        Math.min(text.length(), word.end() + 30)) + " ..");
        }
        return left;
    }
}
