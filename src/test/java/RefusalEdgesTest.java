import java.util.Arrays;
import java.util.LinkedHashMap;
import java.util.Map;
import java.util.function.Consumer;
import java.util.function.ToIntFunction;

/** Refusals: their numbers, their order where there are several, and that neither they nor questions change anything. */
public final class RefusalEdgesTest extends Edges {
    public static void main(String[] args) {
        numbers();
        unknownFirst();
        outsideNext();
        notNext();
        refusedChangesNothing();
        questionsChangeNothing();
        end();
    }

    private static void numbers() {
        sentence("NONE is -1.");
        due("NONE", GloveSigns.NONE, -1);
        sentence("They are far below all that is counted: -1000000001 and on.");
        due("UNKNOWN", GloveSigns.UNKNOWN, -1000000001);
        due("OUTSIDE", GloveSigns.OUTSIDE, -1000000002);
        due("NOT", GloveSigns.NOT, -1000000003);
        due("FULL", GloveSigns.FULL, -1000000004);
    }

    private static GloveSigns small() {
        GloveSigns x = of("s0;c9 9 0;h0 40 0;");
        for (int i = 0; i < 20; i++) {
            x.write(0, 0);
            x.meant(0, 0);
        }
        return x;
    }

    private static void unknownFirst() {
        sentence("REFUSALS, of several the first in this order: UNKNOWN");
        GloveSigns x = small();
        due("comer, what 9", x.comer(1, 9), UNKNOWN);
        due("house, what 9", x.house(1, 9), UNKNOWN);
        due("prize, meaning 9", x.prize(1, 9), UNKNOWN);
        due("visit, comer, sign 48", x.visit(1, 0, 48), UNKNOWN);
        due("visit, house, sign 48", x.visit(0, 1, 48), UNKNOWN);
        due("mean 8", x.mean(1, 8), UNKNOWN);
        due("stuff 10", x.stuff(1, 10), UNKNOWN);
        due("says, comer, sign 48", x.says(1, 0, 48, 0), UNKNOWN);
        due("says, house, what 2", x.says(0, 1, 0, 2), UNKNOWN);
        due("signs, comer, what 3", x.signs(1, 0, 3), UNKNOWN);
        due("signs, house, what 3", x.signs(0, 1, 3), UNKNOWN);
        due("letIn, sign 48", x.letIn(1, 48), UNKNOWN);
        due("round, what 2", x.round(1, 2), UNKNOWN);
        due("write, L 41, full", x.write(1, 41), UNKNOWN);
        due("write, full", x.write(1, 0), UNKNOWN);
        due("pardon, comer, no sham", x.pardon(1, 0), UNKNOWN);
        due("pardon, house, no sham", x.pardon(0, 1), UNKNOWN);
        due("goBack, not kept", x.goBack(2), UNKNOWN);
        GloveSigns y = new GloveSigns();
        due("no season: comer, what 9", y.comer(0, 9), UNKNOWN);
        due("no season: house, what 9", y.house(0, 9), UNKNOWN);
        due("no season: visit, sign 48", y.visit(0, 0, 48), UNKNOWN);
        due("no season: mean 8", y.mean(0, 8), UNKNOWN);
        due("no season: letIn, sign 48", y.letIn(0, 48), UNKNOWN);
        due("no season: write, L 41", y.write(0, 41), UNKNOWN);
    }

    private static void outsideNext() {
        sentence("OUTSIDE (another number out of its bounds; a SIGN that is none), NOT (not now, as told), FULL.");
        GloveSigns x = new GloveSigns();
        due("sign 48, no season", x.sign(48, 0), OUTSIDE);
        due("sign, what 2, no season", x.sign(0, 2), OUTSIDE);
        due("day(31), no season", x.day(31), OUTSIDE);
        due("drift(0), no season", x.drift(0), OUTSIDE);
        due("undo(31), none to undo", x.undo(31), OUTSIDE);
        due("undo(0), none to undo", x.undo(0), OUTSIDE);
        due("clear(8), no season", x.clear(8, 0), OUTSIDE);
        due("clear, what 2, no season", x.clear(0, 2), OUTSIDE);
        due("couldBe(3), no season", x.couldBe(3), OUTSIDE);
        GloveSigns y = small();
        due("meant, part 5, full", y.meant(5, 0), OUTSIDE);
        due("meant, v 2, full", y.meant(0, 2), OUTSIDE);
        due("meant, full", y.meant(0, 1), FULL);
        due("write, L 41, full", y.write(0, 41), OUTSIDE);
        due("write, full", y.write(0, 1), FULL);
        GloveSigns z = new GloveSigns();
        for (int i = 0; i < 240; i++) {
            z.feed(' ');
        }
        due("feed(256), full", z.feed(256), OUTSIDE);
        due("feed(-1), full", z.feed(-1), OUTSIDE);
        due("feed(255), full", z.feed(255), FULL);
    }

    private static void notNext() {
        sentence("NOT (not now, as told)");
        GloveSigns x = new GloveSigns();
        due("sign", x.sign(47, 1), NOT);
        due("day", x.day(30), NOT);
        due("drift", x.drift(30), NOT);
        due("undo", x.undo(30), NOT);
        due("clear", x.clear(7, 1), NOT);
        due("couldBe", x.couldBe(2), NOT);
        due("part", x.part(), NOT);
        due("goBack", x.goBack(1), NOT);
        GloveSigns y = small();
        due("sign in a season", y.sign(47, 1), 1);
        due("part in a season", y.part(), 4);
        due("pardon of no sham", y.pardon(0, 0), NOT);
        visits(y, 2, 0, 0, 0);
        due("pardon of no sham yet", y.pardon(0, 0), NOT);
        y.visit(0, 0, 0);
        due("pardon of a sham", y.pardon(0, 0), 3);
    }

    /** Deeds of every kind, a comer let in twice of the three times that make a sham, room to undo, one image, a text begun. */
    private static GloveSigns lively() {
        GloveSigns x = of("s1;c9 6 1;c4 5 0;h3 30 1,2;h9 20 0,3;");
        x.seed(99);
        visits(x, 2, 0, 0, 1);
        x.day(1);
        x.keep(0);
        visits(x, 3, 1, 0, 0);
        x.visit(0, 1, 17);
        x.mean(0, 2);
        x.stuff(1, 7);
        x.drift(1);
        x.visit(0, 1, 17);
        x.meant(3, 0);
        x.write(0, 5);
        x.write(1, 7);
        feedAll(x, "s2;c1");
        return x;
    }

    private static GloveSigns begun() {
        GloveSigns x = new GloveSigns();
        x.seed(99);
        x.meant(3, 0);
        feedAll(x, "s2;c1");
        return x;
    }

    private static GloveSigns full() {
        GloveSigns x = lively();
        for (int i = 0; i < 20; i++) {
            x.write(0, i);
            x.meant(i % 5, 0);
        }
        return x;
    }

    private static GloveSigns ofKind(int kind) {
        return kind == 0 ? begun() : kind == 1 ? lively() : full();
    }

    /** What all questions answer, then what comes of deeds, of undoing, of the image and of the text. */
    private static int[] look(GloveSigns x) {
        int[] row = new int[360];
        int n = 0;
        for (int what = 0; what < 14; what++) {
            row[n++] = x.told(what);
        }
        n = lookAtNow(x, row, n);
        for (int i = 0; i < 20; i++) {
            for (int what = 0; what < 5; what++) {
                row[n++] = x.logged(i, what);
            }
        }
        row[n++] = x.fault();
        row[n++] = x.judge();
        row[n++] = x.part();
        row[n++] = x.couldBe(0);
        row[n++] = x.couldBe(1);
        row[n++] = x.tear();
        for (int g = 0; g < 3; g++) {
            row[n++] = x.visit(0, 0, g);
            row[n++] = x.visit(0, 1, g);
        }
        row[n++] = x.drift(1);
        n = lookAtNow(x, row, n);
        for (int i = 0; i < 20; i++) {
            row[n++] = x.undo(1);
        }
        n = lookAtNow(x, row, n);
        row[n++] = x.seed(4);
        row[n++] = x.goBack(1);
        row[n++] = x.goBack(0);
        row[n++] = x.seed(5);
        n = lookAtNow(x, row, n);
        feedAll(x, " 2 3;");
        row[n++] = x.season();
        row[n++] = x.fault();
        row[n++] = x.comer(0, 2);
        return Arrays.copyOf(row, n);
    }

    private static int lookAtNow(GloveSigns x, int[] row, int from) {
        int n = from;
        for (int c = 0; c < 2; c++) {
            for (int what = 0; what < 5; what++) {
                row[n++] = x.comer(c, what);
            }
            row[n++] = x.letIn(c, 1);
            for (int h = 0; h < 2; h++) {
                row[n++] = x.calls(c, h);
                row[n++] = x.says(c, h, 1, 0);
            }
        }
        for (int h = 0; h < 2; h++) {
            for (int what = 0; what < 4; what++) {
                row[n++] = x.house(h, what);
            }
            row[n++] = x.prize(h, 1);
        }
        row[n++] = x.told(4);
        row[n++] = x.told(5);
        row[n++] = x.told(13);
        return n;
    }

    /** Two objects with the same past, of which one has the call besides, answer alike from there on. */
    private static void unchangedBy(String call, int kind, Consumer<GloveSigns> made) {
        GloveSigns with = ofKind(kind);
        made.accept(with);
        int[] got = look(with);
        int[] want = look(ofKind(kind));
        due(call + ": questions asked behind it", got.length, want.length);
        for (int i = 0; i < Math.min(got.length, want.length); i++) {
            due(call + ", kind " + kind + ", question " + i + " behind it", got[i], want[i]);
        }
    }

    private static void refusedChangesNothing() {
        sentence("What is refused changes nothing.");
        for (int kind = 0; kind < 3; kind++) {
            for (Map.Entry<String, ToIntFunction<GloveSigns>> call : refused().entrySet()) {
                due(call.getKey() + " is refused", call.getValue().applyAsInt(ofKind(kind)) < -1000000000 ? 1 : 0, 1);
                unchangedBy(call.getKey(), kind, call.getValue()::applyAsInt);
            }
        }
        unchangedBy("day without a season", 0, x -> x.day(1));
        unchangedBy("drift without a season", 0, x -> x.drift(30));
        unchangedBy("undo without a season", 0, x -> x.undo(1));
        unchangedBy("visit without a season", 0, x -> x.visit(0, 0, 0));
        unchangedBy("goBack of what was not kept", 0, x -> x.goBack(0));
        unchangedBy("write into a full book", 2, x -> x.write(0, 0));
        unchangedBy("meant when full", 2, x -> x.meant(0, 1));
    }

    private static Map<String, ToIntFunction<GloveSigns>> refused() {
        Map<String, ToIntFunction<GloveSigns>> calls = new LinkedHashMap<>();
        calls.put("feed(-1)", x -> x.feed(-1));
        calls.put("feed(256)", x -> x.feed(256));
        calls.put("visit(2, 0, 0)", x -> x.visit(2, 0, 0));
        calls.put("visit(0, 2, 0)", x -> x.visit(0, 2, 0));
        calls.put("visit(0, 0, 48)", x -> x.visit(0, 0, 48));
        calls.put("visit(0, 0, -1)", x -> x.visit(0, 0, -1));
        calls.put("day(0)", x -> x.day(0));
        calls.put("day(31)", x -> x.day(31));
        calls.put("mean(2, 0)", x -> x.mean(2, 0));
        calls.put("mean(0, 8)", x -> x.mean(0, 8));
        calls.put("mean(0, -1)", x -> x.mean(0, -1));
        calls.put("stuff(2, 0)", x -> x.stuff(2, 0));
        calls.put("stuff(0, 10)", x -> x.stuff(0, 10));
        calls.put("stuff(0, -1)", x -> x.stuff(0, -1));
        calls.put("pardon(0, 0)", x -> x.pardon(0, 0));
        calls.put("pardon(1, 1)", x -> x.pardon(1, 1));
        calls.put("pardon(2, 0)", x -> x.pardon(2, 0));
        calls.put("drift(0)", x -> x.drift(0));
        calls.put("drift(31)", x -> x.drift(31));
        calls.put("undo(0)", x -> x.undo(0));
        calls.put("undo(31)", x -> x.undo(31));
        calls.put("undo(30)", x -> x.undo(30));
        calls.put("undo(9)", x -> x.undo(9));
        calls.put("meant(5, 0)", x -> x.meant(5, 0));
        calls.put("meant(0, 2)", x -> x.meant(0, 2));
        calls.put("meant(4, 3)", x -> x.meant(4, 3));
        calls.put("write(2, 0)", x -> x.write(2, 0));
        calls.put("write(0, 41)", x -> x.write(0, 41));
        calls.put("write(0, -1)", x -> x.write(0, -1));
        calls.put("seed(-1)", x -> x.seed(-1));
        calls.put("seed(MIN)", x -> x.seed(MIN));
        calls.put("keep(2)", x -> x.keep(2));
        calls.put("keep(-1)", x -> x.keep(-1));
        calls.put("goBack(1)", x -> x.goBack(1));
        calls.put("goBack(2)", x -> x.goBack(2));
        return calls;
    }

    private static void questionsChangeNothing() {
        sentence("3 TRIED from now; nothing changes by it.");
        for (int kind = 0; kind < 3; kind++) {
            unchangedBy("says", kind, x -> x.says(0, 0, 1, 0));
            unchangedBy("says, the answer", kind, x -> x.says(0, 1, 17, 1));
            unchangedBy("signs", kind, x -> x.signs(0, 0, 0));
            unchangedBy("signs, the plainest", kind, x -> x.signs(0, 0, 1));
            unchangedBy("signs, the honest one", kind, x -> x.signs(1, 1, 2));
            unchangedBy("gains", kind, x -> x.gains(0, 0));
            unchangedBy("clear", kind, x -> x.clear(1, 1));
            unchangedBy("letIn", kind, x -> x.letIn(0, 1));
            unchangedBy("round", kind, x -> x.round(0, 0));
            unchangedBy("suits", kind, x -> x.suits(0, 0));
            unchangedBy("dry", kind, x -> x.dry(60, 99));
            unchangedBy("couldBe", kind, x -> x.couldBe(2));
            unchangedBy("part", kind, GloveSigns::part);
            unchangedBy("judge", kind, GloveSigns::judge);
            unchangedBy("matched", kind, x -> x.comer(0, 4));
            unchangedBy("matched, the house", kind, x -> x.house(1, 2));
            unchangedBy("told", kind, x -> x.told(7));
            unchangedBy("logged", kind, x -> x.logged(0, 0));
            unchangedBy("sign", kind, x -> x.sign(5, 1));
        }
    }
}
