import java.io.IOException;
import java.nio.file.Files;
import java.nio.file.Path;
import java.util.ArrayList;
import java.util.BitSet;
import java.util.List;
import java.util.Map;
import java.util.TreeMap;

/** The document's own words, so that each of its sentences can be shown to have a test. */
final class Document {
    /** The section "Terms"; a promise's section has the promise's number. */
    static final int TERMS = 0;
    static final int PROMISES = 44;
    private static final Path PATH = Path.of("../shared/DOC.md");

    private final Map<Integer, String> sections = new TreeMap<>();
    private final Map<Integer, BitSet> quoted = new TreeMap<>();

    static boolean isThere() {
        return Files.isReadable(PATH);
    }

    Document() throws IOException {
        String all = Files.readString(PATH).replaceAll("```(text|java)?", " ").replaceAll("\\s+", " ");
        put(TERMS, between(all, " ## Terms ", " ## Promise 1:"));
        for (int i = 1; i <= PROMISES; i++) {
            String section = between(all, " ## Promise " + i + ":", i < PROMISES ? " ## Promise " + (i + 1) + ":" : " ## Not promised");
            put(i, section.substring(Math.max(0, section.indexOf("`: ") + 3)));
        }
    }

    private static String between(String text, String from, String to) {
        int begin = text.indexOf(from);
        int end = text.indexOf(to, Math.max(0, begin));
        return begin < 0 || end < 0 ? "" : text.substring(begin + from.length(), end);
    }

    private void put(int section, String text) {
        sections.put(section, text);
        quoted.put(section, new BitSet());
    }

    /** Whether the words stand in that section; they count as quoted then. */
    boolean quote(int section, String words) {
        int begin = sections.get(section).indexOf(words);
        if (begin >= 0) {
            quoted.get(section).set(begin, begin + words.length());
        }
        return begin >= 0;
    }

    /** What no test has quoted yet, of all sections; signs between sentences need not be quoted. */
    List<String> unquoted() {
        List<String> rest = new ArrayList<>();
        for (int section : sections.keySet()) {
            String text = sections.get(section);
            BitSet done = quoted.get(section);
            for (int i = done.nextClearBit(0); i < text.length(); i = done.nextClearBit(i)) {
                int end = done.nextSetBit(i) < 0 ? text.length() : done.nextSetBit(i);
                String words = text.substring(i, end);
                if (words.matches(".*[a-zA-Z].*")) {
                    rest.add((section == TERMS ? "Terms: " : "Promise " + section + ": ") + words.trim());
                }
                i = end;
            }
        }
        return rest;
    }
}
