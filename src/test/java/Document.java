import java.io.IOException;
import java.nio.file.Files;
import java.nio.file.Path;
import java.util.ArrayList;
import java.util.LinkedHashMap;
import java.util.List;
import java.util.Map;

/** The document that the program follows, section by section, and which of its words have been quoted. */
final class Document {
    private static final String FIRST = "Terms", LAST = "Not promised";

    /** What stands below one heading. */
    private static final class Section {
        final StringBuilder text = new StringBuilder();
        boolean[] quoted;

        void ready() {
            quoted = new boolean[text.length()];
        }

        /** Takes the words where they have not been quoted yet, for some stand twice in a section. */
        boolean quote(String words) {
            for (int at = text.indexOf(words); at >= 0; at = text.indexOf(words, at + 1)) {
                if (!quoted[at] && !quoted[at + words.length() - 1]) {
                    for (int i = at; i < at + words.length(); i++) {
                        quoted[i] = true;
                    }
                    return true;
                }
            }
            return false;
        }

        List<String> unquoted() {
            List<String> rests = new ArrayList<>();
            StringBuilder rest = new StringBuilder();
            for (int i = 0; i <= text.length(); i++) {
                if (i < text.length() && !quoted[i]) {
                    rest.append(text.charAt(i));
                    continue;
                }
                if (rest.toString().matches("(?s).*\\w.*")) {
                    rests.add(rest.toString().trim());
                }
                rest.setLength(0);
            }
            return rests;
        }
    }

    private final Map<String, Section> sections = new LinkedHashMap<>();

    /** The sections between the terms and what is not promised; the headings themselves need no test. */
    Document(Path path) throws IOException {
        Section section = null;
        boolean inside = false;
        for (String line : Files.readAllLines(path)) {
            if (line.startsWith("#")) {
                String heading = line.replaceFirst("^#+ *", "");
                inside = heading.equals(FIRST) || inside && !heading.equals(LAST);
                section = new Section();
                if (inside) {
                    sections.put(heading, section);
                }
            } else if (section != null) {
                section.text.append(line).append('\n');
            }
        }
        for (Section one : sections.values()) {
            one.ready();
        }
    }

    boolean quote(String heading, String words) {
        Section section = sections.get(heading);
        return section != null && section.quote(words);
    }

    /** The words that no test has quoted, each behind its heading. */
    List<String> unquoted() {
        List<String> rests = new ArrayList<>();
        for (Map.Entry<String, Section> entry : sections.entrySet()) {
            for (String rest : entry.getValue().unquoted()) {
                rests.add(entry.getKey() + ": " + rest);
            }
        }
        return rests;
    }

    int size() {
        return sections.size();
    }
}
