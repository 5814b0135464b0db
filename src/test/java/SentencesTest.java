import java.io.IOException;
import java.nio.file.DirectoryStream;
import java.nio.file.Files;
import java.nio.file.Path;
import java.util.ArrayList;
import java.util.List;
import java.util.regex.Matcher;
import java.util.regex.Pattern;

/** Each promise of the document has a sentence that a test of edges names. */
public final class SentencesTest {
    private static final Path DOCUMENT = Path.of("../shared/DOC.md");
    private static final Pattern TEXT = Pattern.compile("\"((?:[^\"\\\\]|\\\\.)*)\"");
    private static final Pattern NAMED = Pattern.compile("sentence\\(((?:\\s*\\+?\\s*\"(?:[^\"\\\\]|\\\\.)*\")+)\\)");

    public static void main(String[] args) throws IOException {
        if (!Files.isReadable(DOCUMENT)) {
            System.out.println(DOCUMENT + " cannot be read: promises are not looked for");
            return;
        }
        List<String> named = namedSentences();
        String[] promises = folded(Files.readString(DOCUMENT).split("## Not promised")[0]).split("## Promise ");
        int without = 0;
        for (int i = 1; i < promises.length; i++) {
            if (named.stream().noneMatch(promises[i]::contains)) {
                without++;
                System.out.println("no test names a sentence of promise " + promises[i]);
            }
        }
        System.out.println(named.size() + " sentences named, " + (promises.length - 1) + " promises, " + without + " without one");
        if (without != 0 || promises.length != 36) {
            System.exit(1);
        }
    }

    private static List<String> namedSentences() throws IOException {
        List<String> named = new ArrayList<>();
        try (DirectoryStream<Path> files = Files.newDirectoryStream(Path.of("src/test/java"), "*EdgesTest.java")) {
            for (Path file : files) {
                Matcher call = NAMED.matcher(Files.readString(file));
                while (call.find()) {
                    named.add(folded(joined(call.group(1))));
                }
            }
        }
        return named;
    }

    private static String joined(String parts) {
        StringBuilder all = new StringBuilder();
        Matcher part = TEXT.matcher(parts);
        while (part.find()) {
            all.append(part.group(1));
        }
        return all.toString();
    }

    private static String folded(String words) {
        return words.replaceAll("\\s+", " ").trim();
    }
}
