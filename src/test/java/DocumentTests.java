import java.nio.file.Files;
import java.nio.file.Path;
import java.util.BitSet;
import java.util.List;
import java.util.regex.Matcher;
import java.util.regex.Pattern;

/**
 * The document beside the sentences that TermsTests, AskedTests and EdgeTests hold: each of these stands in it word for
 * word, and of "Terms" and the promises nothing is left but headings: no sentence is without a run of calls.
 */
public final class DocumentTests {
    /** What says nothing that a call could break. */
    private static final List<String> HEADINGS = List.of("## Terms", "==== [123]", "```(text)?",
        "## Promise \\d+: \\w[\\w ]*`[^`]*`:",
        "Ahead of the calls [`\\w, ]* the interface says: ---- [a-z, ]*\\.");

    private static int wrong = 0;

    private static void fault(String what) {
        wrong++;
        System.out.println(what);
    }

    private static String oneLine(String text) {
        return text.replaceAll("\\s+", " ");
    }

    private static BitSet quotedIn(String document) {
        BitSet quoted = new BitSet();
        for (String sentence : Sentences.QUOTED) {
            String words = oneLine(sentence);
            int from = document.indexOf(words);
            if (from < 0) fault("not in the document: " + sentence);
            for (; from >= 0; from = document.indexOf(words, from + 1)) quoted.set(from, from + words.length());
        }
        return quoted;
    }

    private static BitSet headingsIn(String document) {
        BitSet found = new BitSet();
        for (String heading : HEADINGS) {
            Matcher m = Pattern.compile(heading).matcher(document);
            while (m.find()) found.set(m.start(), m.end());
        }
        return found;
    }

    /** Runs of what is neither quoted nor a heading; marks between two quotes do not count. */
    private static void lookForRest(String document, BitSet known, int from, int to) {
        int begin = known.nextClearBit(from);
        while (begin < to) {
            int end = known.nextSetBit(begin);
            if (end < 0 || end > to) end = to;
            String rest = document.substring(begin, end);
            if (rest.chars().anyMatch(Character::isLetterOrDigit)) fault("no run of calls holds: " + rest.trim());
            begin = known.nextClearBit(end);
        }
    }

    public static void main(String[] args) throws Exception {
        Sentences.quotesOnly = true;
        TermsTests.all();
        AskedTests.all();
        EdgeTests.all();
        String document = oneLine(Files.readString(Path.of("../shared/DOC.md")));
        int terms = document.indexOf("## Terms");
        int free = document.indexOf("## Not promised");
        if (terms < 0 || free < terms) {
            fault("the document has other parts than these tests look at");
        } else {
            BitSet known = quotedIn(document);
            known.or(headingsIn(document));
            lookForRest(document, known, terms, free);
        }
        System.out.println("DocumentTests: " + Sentences.QUOTED.size() + " quotes, " + wrong + " wrong");
        if (wrong != 0) System.exit(1);
    }
}
