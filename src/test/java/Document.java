import java.io.IOException;
import java.nio.file.Files;
import java.nio.file.Path;
import java.util.ArrayList;
import java.util.BitSet;
import java.util.List;
import java.util.regex.Matcher;
import java.util.regex.Pattern;

/** The document's words, and which of them a test has named. */
final class Document {
    /** The section of "What it is" and "Terms"; the others are those of the promises, by number. */
    static final int TERMS = 0;
    static final int PROMISES = 34;

    /** What tells that words name a boundary: a number, a refusal, an edge. */
    private static final Pattern EDGE = Pattern.compile("\\d+|\\b(NONE|BAD|STATE|FULL|NOTHING|CAST|PLACE|NO|at most"
        + "|at least|empty|beyond|below|above|ahead|first|least|greatest|fewest|fewer|most|last|newest|latest"
        + "|modulo|wrapping|cut|lowest|nothing|none|without)\\b");

    private final String[] sections = new String[PROMISES + 1];
    private final BitSet[] named = new BitSet[PROMISES + 1];

    Document() throws IOException {
        String[] parts = Files.readString(Path.of("../shared/DOC.md")).split("\n## ");
        StringBuilder terms = new StringBuilder();
        for (String part : parts) {
            String title = part.substring(0, Math.max(0, part.indexOf('\n')));
            String words = part.substring(title.length());
            if (title.equals("What it is") || title.equals("Terms")) {
                terms.append(words);
            } else if (title.startsWith("Promise ")) {
                int number = Integer.parseInt(title.substring("Promise ".length(), title.indexOf(':')));
                // the call's own line is its face, and names no edge
                sections[number] = plain(words.substring(words.indexOf("`:") + 2));
            }
        }
        sections[TERMS] = plain(terms.toString());
        for (int k = 0; k < named.length; k++) {
            named[k] = new BitSet();
        }
    }

    private static String plain(String words) {
        return words.replaceAll("```(text)?", " ").replaceAll("==== \\d", " ").replaceAll("\\s+", " ").trim();
    }

    /** Marks all places of a section at which the words stand as named; false: they stand nowhere in it. */
    boolean name(int section, String words) {
        String plain = plain(words);
        boolean stands = false;
        for (int at = sections[section].indexOf(plain); at >= 0; at = sections[section].indexOf(plain, at + 1)) {
            named[section].set(at, at + plain.length());
            stands = true;
        }
        return stands;
    }

    /** The words of a section that tell of a boundary and that no test has named, each with what stands by it. */
    List<String> unnamed(int section) {
        List<String> all = new ArrayList<>();
        Matcher edge = EDGE.matcher(sections[section]);
        while (edge.find()) {
            if (named[section].nextClearBit(edge.start()) < edge.end()) {
                int from = Math.max(0, edge.start() - 20);
                all.add(sections[section].substring(from, Math.min(sections[section].length(), edge.end() + 20)));
            }
        }
        return all;
    }
}
