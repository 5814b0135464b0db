import java.lang.reflect.Constructor;
import java.lang.reflect.Field;
import java.lang.reflect.Method;
import java.lang.reflect.Modifier;
import java.nio.file.Files;
import java.nio.file.Path;
import java.util.Set;
import java.util.TreeSet;
import java.util.regex.Matcher;
import java.util.regex.Pattern;

/** The public face is the document's and no more, and the source keeps to the rules that a look at it can tell. */
public final class FaceTest {
    private static final String[] METHODS = {
        "feed(1)", "season(0)", "fault(0)", "told(1)", "comer(2)", "house(2)", "prize(2)", "calls(2)", "sign(2)", "logged(2)",
        "visit(3)", "day(1)", "mean(2)", "stuff(2)", "pardon(2)", "drift(1)", "undo(1)",
        "says(4)", "signs(3)", "gains(2)", "clear(2)", "letIn(2)", "round(2)", "suits(2)", "dry(2)",
        "meant(2)", "couldBe(1)", "part(0)", "write(2)", "judge(0)", "tear(0)", "seed(1)", "keep(1)", "goBack(1)"};
    private static final String[] FORBIDDEN = {
        "\\bthrow\\b", "\\btry\\b", "\\bcatch\\b", "\\bsynchronized\\b", "\\bassert\\b", "->", "::",
        "\\bExact\\b", "\\bSystem\\.(?!arraycopy)", "\\bpackage\\b", "import (?!java\\.util\\.(Arrays|ArrayList|List);)"};
    private static int wrong = 0;

    public static void main(String[] args) throws Exception {
        Class<?> face = GloveSigns.class;
        check(Modifier.isPublic(face.getModifiers()) && Modifier.isFinal(face.getModifiers()), "public and final");
        checkMethods(face);
        checkConstructors(face);
        checkFields(face);
        for (Class<?> inner : face.getDeclaredClasses()) {
            check(Modifier.isStatic(inner.getModifiers()) && !Modifier.isPublic(inner.getModifiers()), inner.getName());
            checkStatics(inner);
            checkNames(inner);
        }
        checkSource();
        checkHeadings();
        if (wrong != 0) {
            System.exit(1);
        }
    }

    private static void checkMethods(Class<?> face) {
        Set<String> want = new TreeSet<>(Set.of(METHODS));
        Set<String> got = new TreeSet<>();
        for (Method m : face.getDeclaredMethods()) {
            if (Modifier.isPrivate(m.getModifiers())) {
                check(!isPublicName(m.getName()), "private " + m.getName() + " bears a public name");
            } else {
                got.add(m.getName() + "(" + m.getParameterCount() + ")");
                check(Modifier.isPublic(m.getModifiers()) && m.getReturnType() == int.class, m.toString());
                for (Class<?> type : m.getParameterTypes()) {
                    check(type == int.class, m.toString());
                }
            }
        }
        check(got.equals(want), "methods: " + got);
    }

    private static void checkConstructors(Class<?> face) {
        Constructor<?>[] all = face.getDeclaredConstructors();
        check(all.length == 1 && all[0].getParameterCount() == 0 && Modifier.isPublic(all[0].getModifiers()), "constructor");
    }

    private static void checkFields(Class<?> face) throws Exception {
        Set<String> open = new TreeSet<>();
        for (Field f : face.getDeclaredFields()) {
            if (!Modifier.isPrivate(f.getModifiers())) {
                open.add(f.getName() + "=" + f.getInt(null));
            }
        }
        Set<String> want = new TreeSet<>(Set.of(
            "NONE=-1", "UNKNOWN=-1000000001", "OUTSIDE=-1000000002", "NOT=-1000000003", "FULL=-1000000004"));
        check(open.equals(want), "constants: " + open);
        checkStatics(face);
    }

    private static void checkStatics(Class<?> type) {
        int own = 0;
        for (Field f : type.getDeclaredFields()) {
            if (Modifier.isStatic(f.getModifiers())) {
                check(Modifier.isFinal(f.getModifiers()), "static that is not final: " + f);
            } else {
                own++;
            }
        }
        check(own <= 20, type + " has " + own + " fields");
    }

    private static void checkNames(Class<?> inner) {
        for (Method m : inner.getDeclaredMethods()) {
            check(!isPublicName(m.getName()), inner + " has a method with a public name: " + m.getName());
            check(m.getParameterCount() <= 7, m.toString());
        }
    }

    private static boolean isPublicName(String name) {
        for (String m : METHODS) {
            if (m.startsWith(name + "(")) {
                return true;
            }
        }
        return false;
    }

    private static void checkSource() throws Exception {
        String source = Files.readString(Path.of("src/main/java/GloveSigns.java"));
        for (int i = 0; i < source.length(); i++) {
            check(source.charAt(i) < 128, "a sign above 127 at " + i);
        }
        String code = source.replaceAll("(?s)/\\*.*?\\*/", "").replaceAll("//[^\n]*", "");
        for (String forbidden : FORBIDDEN) {
            Matcher m = Pattern.compile(forbidden).matcher(code);
            check(!m.find(), "the source has " + forbidden);
        }
    }

    /** Ahead of the calls the interface says what the document tells, and the calls stand in the document's order. */
    private static void checkHeadings() throws Exception {
        String want = " the season: feed season fault told comer house prize calls sign logged"
            + " deeds: visit day mean stuff pardon drift undo"
            + " tried: says signs gains clear letIn round suits dry"
            + " what was meant: meant couldBe part write judge tear"
            + " images: seed keep goBack";
        StringBuilder got = new StringBuilder();
        String source = Files.readString(Path.of("src/main/java/GloveSigns.java"));
        String face = source.substring(0, source.indexOf("// ---- what several calls share"));
        Matcher m = Pattern.compile("// ---- ([a-z ]+)\n|public int (\\w+)\\(").matcher(face);
        while (m.find()) {
            got.append(' ').append(m.group(2) == null ? m.group(1) + ":" : m.group(2));
        }
        check(got.toString().equals(want), "headings and calls:" + got);
    }

    private static void check(boolean holds, String what) {
        if (!holds) {
            wrong++;
            System.out.println("face: " + what);
        }
    }
}
