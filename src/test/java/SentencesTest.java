import java.io.IOException;
import java.nio.file.DirectoryStream;
import java.nio.file.Files;
import java.nio.file.Path;
import java.util.ArrayList;
import java.util.List;
import java.util.regex.Matcher;
import java.util.regex.Pattern;

/**
 * Each promise of the document has a sentence that a test of edges names, and no words of its terms and promises are left
 * that none names, but for headings and what tells of no answer.
 */
public final class SentencesTest {
    private static final Path DOCUMENT = Path.of("../shared/DOC.md");
    private static final Pattern TEXT = Pattern.compile("\"((?:[^\"\\\\]|\\\\.)*)\"");
    private static final Pattern NAMED = Pattern.compile("sentence\\(((?:\\s*\\+?\\s*\"(?:[^\"\\\\]|\\\\.)*\")+)\\)");
    private static final Pattern WORDS = Pattern.compile("[A-Za-z0-9][^\0]*");

    /** FaceTest looks at signatures and at what the interface says; no call takes bits; capitals are no answer. */
    private static final String[] WITHOUT_ANSWERS = {
        "## Promise [0-9]+: (A new object|\\w+)", "`(int \\w+|GloveSigns)\\([^`]*\\)`:", "## Terms", "======== [123]", "```(text)?",
        "Ahead of the calls [^.]* the interface says: ---- [a-z ]+\\.", "Words in capitals are told where they come first\\.",
        "bits of such"};

    public static void main(String[] args) throws IOException {
        if (!Files.isReadable(DOCUMENT)) {
            System.out.println(DOCUMENT + " cannot be read: promises are not looked for");
            return;
        }
        List<String> named = namedSentences();
        String document = folded(Files.readString(DOCUMENT).split("## Not promised")[0]);
        String[] promises = document.split("## Promise ");
        int without = 0;
        for (int i = 1; i < promises.length; i++) {
            if (named.stream().noneMatch(promises[i]::contains)) {
                without++;
                System.out.println("no test names a sentence of promise " + promises[i]);
            }
        }
        int left = wordsThatNoneNames(document.substring(document.indexOf("## Terms")), named);
        System.out.println(named.size() + " sentences named, " + (promises.length - 1) + " promises, " + without
            + " without one, " + left + " pieces that none names");
        if (without != 0 || left != 0 || promises.length != 36) {
            System.exit(1);
        }
    }

    /** Counts and tells what is left of the document when all that is named is struck out. */
    private static int wordsThatNoneNames(String document, List<String> named) {
        StringBuilder left = new StringBuilder(document);
        for (String sentence : named) {
            for (int at = document.indexOf(sentence); at >= 0; at = document.indexOf(sentence, at + 1)) {
                strike(left, at, at + sentence.length());
            }
        }
        for (String pattern : WITHOUT_ANSWERS) {
            Matcher m = Pattern.compile(pattern).matcher(document);
            while (m.find()) {
                strike(left, m.start(), m.end());
            }
        }
        int count = 0;
        for (Matcher m = WORDS.matcher(left); m.find(); count++) {
            System.out.println("no test names '" + m.group() + "'");
        }
        return count;
    }

    private static void strike(StringBuilder left, int from, int to) {
        for (int i = from; i < to; i++) {
            left.setCharAt(i, '\0');
        }
    }

    private static List<String> namedSentences() throws IOException {
        List<String> named = new ArrayList<>();
        try (DirectoryStream<Path> files = Files.newDirectoryStream(Path.of("src/test/java"), "*EdgesTest.java")) {
            for (Path file : files) {
                Matcher call = NAMED.matcher(Files.readString(file));
                while (call.find()) {
                    named.add(folded(joined(call.group(1))));
                }
            }
        }
        return named;
    }

    private static String joined(String parts) {
        StringBuilder all = new StringBuilder();
        Matcher part = TEXT.matcher(parts);
        while (part.find()) {
            all.append(part.group(1));
        }
        return all.toString();
    }

    private static String folded(String words) {
        return words.replaceAll("\\s+", " ").trim();
    }
}
