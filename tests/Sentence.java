import java.io.IOException;
import java.io.UncheckedIOException;
import java.nio.file.Files;
import java.nio.file.Path;
import java.util.BitSet;
import java.util.List;
import java.util.regex.Matcher;
import java.util.regex.Pattern;

/** Ties each test of a boundary case to the sentence of the document that names it, and knows which ones have none. */
final class Sentence {
    /** Stands for the number of a promise. */
    static final int TERMS = 0;

    private static final String DOCUMENT = read();
    private static final BitSet QUOTED = new BitSet();

    /** What stands in the Terms and names no case of its own. */
    private static final List<String> PLAIN = List.of("GENERAL.", "All numbers are integers.", "THE TEXT.", "Errors.",
            "NIGHT AND SLEEP.", "PAGERS.", "CALLS.", "CHANGES.", "EXCEPTIONS.",
            "A pager cannot be handed on to a person, up to a time, for the first of these reasons that applies:",
            "A person does not come for the first of these reasons that applies:",
            "An engine does not leave for the first of these reasons that applies:");
    /** In a promise, a sentence with a number or one of these words names a boundary case. */
    private static final Pattern TELLING = Pattern.compile("\\d|Throws|NONE|\\b(empty|first|least|greatest|fewest|lowest|latest|"
            + "last|best|every|all|also|no|No|either|several|beyond|before|then|together|once)\\b");

    private Sentence() {
    }

    private static String read() {
        try {
            return Files.readString(Path.of("../shared/DOC.md"));
        } catch (IOException missing) {
            throw new UncheckedIOException(missing);
        }
    }

    /** Begins the test of a sentence, or of the part of it that names one case. */
    static void of(int promise, String words) {
        String where = promise == TERMS ? "Terms" : "promise " + promise;
        Check.part(where + ", \"" + words + "\"");
        int head = DOCUMENT.indexOf(promise == TERMS ? "## Terms\n" : "## Promise " + promise + ": ");
        int end = DOCUMENT.indexOf("\n## ", head);
        int at = DOCUMENT.indexOf(words, DOCUMENT.indexOf('\n', head));
        boolean isSaid = at >= 0 && at + words.length() <= end;
        Check.due("that the document says so", isSaid, true);
        if (isSaid) {
            QUOTED.set(at, at + words.length());
        }
    }

    /** Every sentence that names a boundary case, and every number in one, has been quoted by a test. */
    static void allAreQuoted() {
        Check.part("the sentences of the document");
        int at = DOCUMENT.indexOf("GENERAL.");
        int promises = DOCUMENT.indexOf("## Promise 1: ");
        int end = DOCUMENT.indexOf("## Not promised");
        while (at < end) {
            int lineEnd = DOCUMENT.indexOf('\n', at);
            lineIsQuoted(at, lineEnd, at < promises);
            at = lineEnd + 1;
        }
    }

    private static void lineIsQuoted(int from, int end, boolean isTerm) {
        String line = DOCUMENT.substring(from, end);
        if (line.startsWith("#") || line.startsWith("Ahead of the calls")) {
            return;
        }
        // What stands before the colon in "`int time()`: Returns .." is the face, and has a test of its own.
        int at = line.startsWith("`") ? line.indexOf("`: ") + 3 : 0;
        for (String sentence : line.substring(at).split("(?<=[.;])\\s+")) {
            at = line.indexOf(sentence, at);
            boolean isTelling = isTerm ? !PLAIN.contains(sentence) : TELLING.matcher(sentence).find();
            if (isTelling && !sentence.isEmpty()) {
                Check.due("the quotes of: " + sentence, QUOTED.get(from + at, from + at + sentence.length()).isEmpty(), false);
            }
            numbersAreQuoted(from + at, sentence);
            at += sentence.length();
        }
    }

    private static void numbersAreQuoted(int from, String sentence) {
        for (Matcher number = Pattern.compile("\\d+").matcher(sentence); number.find();) {
            Check.due("the quotes of the number " + number.group() + " in: " + sentence, QUOTED.get(from + number.start()), true);
        }
    }
}
