import java.io.IOException;
import java.nio.file.Files;
import java.nio.file.Path;

/** What the tests of edges share: the sentence that is tried, calls that come to its case, and the answers that are due. */
class Edges {
    static final int NONE = -1, UNKNOWN = -1000000001, OUTSIDE = -1000000002, NOT = -1000000003, FULL = -1000000004;
    static final int MIN = Integer.MIN_VALUE, MAX = Integer.MAX_VALUE;

    private static final Path DOCUMENT = Path.of("../shared/DOC.md");
    private static final String DOCUMENT_FOLDED = foldedDocument();
    private static String sentence = "";
    private static int sentences = 0;
    private static int answers = 0;
    private static int wrong = 0;

    /** Names the sentence that the answers from here on belong to; it must stand so in the document. */
    static void sentence(String words) {
        sentence = words;
        sentences++;
        if (!DOCUMENT_FOLDED.isEmpty() && !DOCUMENT_FOLDED.contains(folded(words))) {
            wrong++;
            System.out.println("the document does not say '" + words + "'");
        }
    }

    static void due(String call, long got, long want) {
        answers++;
        if (got != want) {
            wrong++;
            System.out.println("'" + sentence + "': " + call + " answered " + got + ", due is " + want);
        }
    }

    static void end() {
        System.out.println(sentences + " sentences, " + answers + " answers, " + wrong + " wrong");
        if (wrong != 0) {
            System.exit(1);
        }
    }

    static void feedAll(GloveSigns x, String text) {
        for (int i = 0; i < text.length(); i++) {
            x.feed(text.charAt(i));
        }
    }

    /** A new object with the season of a text that has no fault. */
    static GloveSigns of(String text) {
        GloveSigns x = new GloveSigns();
        feedAll(x, text);
        due("season of '" + text + "' (above -10)", x.season() > -10 ? 1 : 0, 1);
        return x;
    }

    /** The text is read without a fault and tells so many comers. */
    static void reads(String text, int comers) {
        GloveSigns x = new GloveSigns();
        feedAll(x, text);
        due("season of '" + text + "'", x.season(), comers);
        due("fault of '" + text + "'", x.fault(), NONE);
    }

    /** The text has this fault at this place, and no season comes of it. */
    static void faults(String text, int number, int place) {
        GloveSigns x = new GloveSigns();
        feedAll(x, text);
        due("season of '" + text + "'", x.season(), -10 - number);
        due("fault of '" + text + "'", x.fault(), place);
        due("manners behind '" + text + "'", x.told(0), NONE);
    }

    static void visits(GloveSigns x, int times, int c, int h, int g) {
        for (int i = 0; i < times; i++) {
            x.visit(c, h, g);
        }
    }

    private static String folded(String words) {
        return words.replaceAll("\\s+", " ").trim();
    }

    private static String foldedDocument() {
        try {
            return folded(Files.readString(DOCUMENT));
        } catch (IOException e) {
            System.out.println(DOCUMENT + " cannot be read: sentences are not compared with it");
            return "";
        }
    }
}
