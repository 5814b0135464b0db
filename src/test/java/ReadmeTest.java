import java.lang.reflect.Method;
import java.lang.reflect.Modifier;
import java.nio.file.Files;
import java.nio.file.Path;
import java.util.ArrayList;
import java.util.List;
import java.util.regex.Matcher;
import java.util.regex.Pattern;

/** README.md: its runs of calls answer as it says; each call stands in a table, with the refusals that the document tells. */
public final class ReadmeTest {
    private static final Path DOCUMENT = Path.of("../shared/DOC.md");
    private static final Pattern BLOCK = Pattern.compile("(?s)```java\n(.*?)```");
    private static final Pattern TOLD = Pattern.compile("tell\\(x, \"([^\"]*)\"\\);");
    private static final Pattern CALL = Pattern.compile("x\\.(\\w+)\\(([-0-9, ]*)\\); +// (-?\\w+): .+");
    private static final Pattern PROMISE = Pattern.compile("`int (\\w+)\\(([^)]*)\\)`: ([^\n]*)");
    private static final String[] REFUSALS = {"UNKNOWN", "OUTSIDE", "NOT", "FULL"};
    private static int wrong = 0;
    private static int answers = 0;

    public static void main(String[] args) throws Exception {
        String page = Files.readString(Path.of("README.md"));
        int runs = 0;
        Matcher blocks = BLOCK.matcher(page);
        while (blocks.find()) {
            if (blocks.group(1).startsWith("GloveSigns x = new GloveSigns();\n")) {
                runs++;
                run(blocks.group(1).split("\n"));
            }
        }
        check(runs == 2, runs + " runs of calls");
        checkValues(page);
        checkTables(page);
        System.out.println(runs + " runs of the page, " + answers + " answers, " + wrong + " wrong");
        if (wrong != 0) {
            System.exit(1);
        }
    }

    private static void run(String[] lines) throws Exception {
        GloveSigns x = new GloveSigns();
        for (int i = 1; i < lines.length; i++) {
            Matcher told = TOLD.matcher(lines[i]);
            Matcher call = CALL.matcher(lines[i]);
            if (told.matches()) {
                for (char letter : told.group(1).toCharArray()) {
                    x.feed(letter);
                }
            } else if (call.matches()) {
                answers++;
                int got = ask(x, call.group(1), call.group(2));
                check(got == answer(call.group(3)), "'" + lines[i] + "' answers " + got);
            } else {
                check(false, "'" + lines[i] + "' is no call with its answer");
            }
        }
    }

    private static int ask(GloveSigns x, String name, String numbers) throws Exception {
        List<Object> arguments = new ArrayList<>();
        for (String number : numbers.isEmpty() ? new String[0] : numbers.split(", ")) {
            arguments.add(Integer.parseInt(number));
        }
        for (Method m : GloveSigns.class.getMethods()) {
            if (m.getName().equals(name) && m.getParameterCount() == arguments.size()) {
                return (Integer) m.invoke(x, arguments.toArray());
            }
        }
        throw new IllegalArgumentException("no call " + name + "(" + numbers + ")");
    }

    private static int answer(String word) throws Exception {
        return Character.isLetter(word.charAt(0)) ? GloveSigns.class.getField(word).getInt(null) : Integer.parseInt(word);
    }

    private static void checkValues(String page) throws Exception {
        check(page.contains("`NONE` (" + GloveSigns.NONE + ")"), "the value of NONE");
        for (String refusal : REFUSALS) {
            check(page.contains("| `" + refusal + "` | " + answer(refusal) + " |"), "the value of " + refusal);
        }
    }

    private static void checkTables(String page) throws Exception {
        for (Method m : GloveSigns.class.getDeclaredMethods()) {
            if (Modifier.isPublic(m.getModifiers())) {
                check(rowOf(page, m.getName()) != null, "no row for " + m.getName());
            }
        }
        if (!Files.isReadable(DOCUMENT)) {
            System.out.println(DOCUMENT + " cannot be read: refusals are not compared with it");
            return;
        }
        Matcher promise = PROMISE.matcher(Files.readString(DOCUMENT));
        int promises = 0;
        while (promise.find()) {
            promises++;
            checkRefusals(page, promise.group(1), promise.group(2).replace("int ", ""), promise.group(3));
        }
        check(promises == 34, promises + " promises of calls");
    }

    private static void checkRefusals(String page, String name, String parameters, String words) {
        String row = rowOf(page, name);
        if (row == null) {
            return;
        }
        check(row.startsWith("| `" + name + "(" + parameters + ")` |"), "the parameters of " + name);
        String told = row.substring(row.lastIndexOf('|', row.length() - 2));
        for (String refusal : REFUSALS) {
            boolean isDue = Pattern.compile("\\b" + refusal + "\\b").matcher(words).find();
            check(told.contains("`" + refusal + "`") == isDue, refusal + " of " + name);
        }
    }

    /** The row of a call: it, its answers, its refusals. */
    private static String rowOf(String page, String name) {
        for (String line : page.split("\n")) {
            if (line.startsWith("| `" + name + "(") && line.split("\\|").length == 4) {
                return line;
            }
        }
        return null;
    }

    private static void check(boolean holds, String what) {
        if (!holds) {
            wrong++;
            System.out.println("README.md: " + what);
        }
    }
}
