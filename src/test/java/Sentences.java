import java.io.IOException;
import java.util.Set;
import java.util.TreeSet;

/** Tests that name a sentence of the document each; the words must stand there. */
final class Sentences {
    private final Due d = new Due();
    private final Document document = new Document();
    private final Set<Integer> promises = new TreeSet<>();

    Sentences() throws IOException {
    }

    /** A sentence of the section of a promise, and runs of rows that it decides. */
    void promise(int number, String words, String... runs) {
        test(number, number, words, runs);
    }

    /** A sentence of "What it is" or "Terms", the promise by which it is seen, and runs of rows that it decides. */
    void term(int number, String words, String... runs) {
        test(Document.TERMS, number, words, runs);
    }

    private void test(int section, int number, String words, String... runs) {
        String label = "promise " + number + ", \"" + words + "\": ";
        d.due(label + "stands in the document", document.name(section, words) ? 1 : 0, 1);
        d.due(label + "has rows", runs.length > 0 ? 1 : 0, 1);
        promises.add(number);
        for (String run : runs) {
            Rows.run(d, label, run);
        }
    }

    void due(String what, long got, long want) {
        d.due(what, got, want);
    }

    /** No words of these sections that tell of a boundary may be without a test; then ends as Due does. */
    void end(int firstSection, int lastSection) {
        for (int section = firstSection; section <= lastSection; section++) {
            for (String words : document.unnamed(section)) {
                d.due("section " + section + " has a test for \".. " + words + " ..\"", 0, 1);
            }
            d.due("promise " + section + " has a test", section == 0 || promises.contains(section) ? 1 : 0, 1);
        }
        d.end();
    }
}
