import java.io.IOException;
import java.nio.file.Files;
import java.nio.file.Path;

/** Checks at a boundary that a sentence of the document names: what fails is told with that sentence. */
final class Edge {
    private static final Path DOCUMENT = Path.of("..", "shared", "DOC.md");
    private final Due due = new Due();
    private final String document = document();
    private int promise;
    private String sentence = "";

    /** Empty where there is no document: then no sentence is looked up in it. */
    private static String document() {
        try {
            return Files.isReadable(DOCUMENT) ? Files.readString(DOCUMENT) : "";
        } catch (IOException e) {
            return "";
        }
    }

    /** The checks that follow hold what this sentence says; it must stand in the document to the letter. */
    void says(int newPromise, String newSentence) {
        promise = newPromise;
        sentence = newSentence;
        due.is(promise, "the document says '" + sentence + "'", document.isEmpty() || document.contains(sentence), true);
    }

    void is(String what, long got, long want) {
        due.is(promise, "'" + sentence + "': " + what, got, want);
    }

    void is(String what, boolean got, boolean want) {
        due.is(promise, "'" + sentence + "': " + what, got, want);
    }

    /** Two looks at towns, line by line. */
    void same(String what, String got, String want) {
        String[] one = got.split("\n");
        String[] other = want.split("\n");
        String where = "";
        for (int i = 0; i < Math.max(one.length, other.length) && where.isEmpty(); i++) {
            String left = i < one.length ? one[i] : "nothing";
            String right = i < other.length ? other[i] : "nothing";
            where = left.equals(right) ? "" : " (" + left + ", due is " + right + ")";
        }
        due.is(promise, "'" + sentence + "': " + what + where, got.equals(want), true);
    }

    void end() {
        due.end();
    }
}
