import java.io.IOException;
import java.nio.charset.StandardCharsets;
import java.nio.file.Files;
import java.nio.file.Path;

/**
 * The document's own words: each test of a bound names the sentence that it looks at, word by word, and what no
 * test has named at the end is told. So a sentence can't be left out, nor be changed without a test being told of.
 */
final class Document {
    private static final Path PLACE = Path.of("..", "shared", "DOC.md");
    private static final String WORDS = words();
    private static final boolean[] NAMED = new boolean[WORDS.length()];

    private Document() {
    }

    /** The next answers are due by this sentence. */
    static void says(String sentence) {
        Check.by(sentence);
        name(sentence);
    }

    /** Words that name no bound, or what other words tell again. */
    static void leaves(String sentence) {
        Check.by(sentence);
        name(sentence);
    }

    private static void name(String sentence) {
        int at = WORDS.indexOf(sentence);
        if (at < 0 && WORDS.isEmpty()) {
            return;
        }
        if (at < 0) {
            Check.wrong("is not in the document");
            return;
        }
        for (int i = at; i < at + sentence.length(); i++) {
            NAMED[i] = true;
        }
    }

    /** Tells the words that no test has named. */
    static void rest() {
        Check.by("every sentence has a test");
        int from = 0;
        while (from < NAMED.length) {
            int to = from;
            while (to < NAMED.length && !NAMED[to]) {
                to++;
            }
            String left = WORDS.substring(from, to).strip();
            if (!left.isEmpty()) {
                Check.wrong("no test names: " + left);
            }
            from = to + 1;
        }
    }

    /** What binds: the paragraph of the 512 calls, and all from the terms to the last promise, without headings. */
    private static String words() {
        if (!Files.exists(PLACE)) {
            System.out.println("no document at " + PLACE + ": its words are not compared");
            return "";
        }
        try {
            StringBuilder all = new StringBuilder();
            boolean binds = false;
            for (String line : Files.readAllLines(PLACE, StandardCharsets.UTF_8)) {
                if (line.startsWith("## ")) {
                    binds = line.equals("## Terms") || line.startsWith("## Promise ");
                } else if ((binds || line.startsWith("An object is used")) && !line.startsWith("```")) {
                    all.append(' ').append(line.replaceFirst("^`[^`]*`: ", ""));
                }
            }
            return all.toString().replaceAll("\\s+", " ").strip();
        } catch (IOException e) {
            throw new IllegalStateException("no document at " + PLACE, e);
        }
    }
}
