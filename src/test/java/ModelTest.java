import java.util.ArrayDeque;
import java.util.ArrayList;
import java.util.Arrays;
import java.util.Deque;
import java.util.List;
import java.util.Random;

/**
 * Random runs of 512 calls, each answered by a second, slow writing of the document too.
 * The model shares no code with the class: it copies its whole state for each deed, and reads texts by tokens.
 */
public final class ModelTest {
    static final int NONE = -1, UNKNOWN = -1000000001, OUTSIDE = -1000000002, NOT = -1000000003, FULL = -1000000004;
    private static final int RUNS = 4000;
    private static final int CALLS = 512;

    public static void main(String[] args) {
        for (int run = 0; run < RUNS; run++) {
            if (!agree(run)) {
                System.exit(1);
            }
        }
        System.out.println(RUNS + " random runs agree with the model");
    }

    private static boolean agree(int run) {
        Random random = new Random(run);
        GloveSigns x = new GloveSigns();
        Model model = new Model();
        List<String> history = new ArrayList<>();
        String pending = "";
        for (int i = 0; i < CALLS; i++) {
            if (pending.isEmpty() && random.nextInt(i == 0 ? 1 : 120) == 0 && random.nextInt(20) != 0) {
                pending = Texts.make(random) + "!";
            }
            int[] call = pending.isEmpty() ? Calls.make(random, model) : Calls.ofLetter(pending.charAt(0));
            pending = pending.isEmpty() ? "" : pending.substring(1);
            long got = Calls.ask(x, call);
            long want = model.ask(call);
            history.add(Calls.show(call) + " -> " + got);
            if (got != want) {
                System.out.println("run " + run + ": " + String.join("\n  ", history) + ", the model says " + want);
                return false;
            }
        }
        return true;
    }

    /** Texts, most of them sound, some with a fault put in. */
    static final class Texts {
        static String make(Random r) {
            StringBuilder s = new StringBuilder();
            if (r.nextInt(40) == 0) {
                return " ".repeat(r.nextInt(3));
            }
            s.append('s').append(blank(r)).append(r.nextInt(3)).append(blank(r)).append(';');
            boolean small = r.nextInt(3) == 0;
            int comers = r.nextInt(small ? 2 : 7), houses = r.nextInt(small ? 2 : 7);
            boolean many = r.nextInt(30) == 0;
            comers += many ? 1 : 0;
            houses += many ? 1 : 0;
            boolean same = r.nextInt(3) == 0;
            int meaning = r.nextInt(8);
            while (comers + houses > 0) {
                if (r.nextInt(comers + houses) < comers) {
                    comers--;
                    s.append('c').append(blank(r)).append(r.nextInt(10)).append(' ').append(r.nextInt(10)).append(' ')
                        .append(same ? meaning : r.nextInt(8)).append(blank(r)).append(';');
                } else {
                    houses--;
                    house(s, r);
                }
            }
            return r.nextInt(4) == 0 ? spoil(s, r) : s.toString();
        }

        private static void house(StringBuilder s, Random r) {
            s.append('h').append(r.nextInt(41)).append(' ').append(blank(r)).append(r.nextInt(41)).append(' ');
            int prizes = 1 + r.nextInt(8);
            for (int i = 0; i < prizes; i++) {
                s.append(i == 0 ? "" : ",").append(blank(r)).append(r.nextInt(12) == 0 ? "00" : "").append(r.nextInt(10));
            }
            s.append(';');
        }

        private static String blank(Random r) {
            return r.nextInt(12) == 0 ? " " : "";
        }

        private static String spoil(StringBuilder s, Random r) {
            String letters = "sch;, 0123456789999\tx";
            int at = r.nextInt(s.length());
            char letter = letters.charAt(r.nextInt(letters.length()));
            switch (r.nextInt(4)) {
                case 0: s.setCharAt(at, letter); break;
                case 1: s.insert(at, letter); break;
                case 2: s.deleteCharAt(at); break;
                default: s.setLength(at);
            }
            return s.toString();
        }
    }

    /** A call: the place of its name in NAMES, then its arguments. */
    static final class Calls {
        static final String[] NAMES = {
            "feed", "season", "fault", "told", "comer", "house", "prize", "calls", "sign", "logged", "visit", "day", "mean",
            "stuff", "pardon", "drift", "undo", "says", "signs", "gains", "clear", "letIn", "round", "suits", "dry", "meant",
            "couldBe", "part", "write", "judge", "tear", "seed", "keep", "goBack"};
        private static final String COMMON = "told comer house calls visit visit visit visit pardon stuff mean day drift undo says "
            + "signs round suits comer house logged couldBe part meant write judge";

        static int[] ofLetter(char letter) {
            return letter == '!' ? new int[] {1} : new int[] {0, letter};
        }

        static int[] make(Random r, Model m) {
            String[] common = COMMON.split(" ");
            String name = r.nextBoolean() ? common[r.nextInt(common.length)] : NAMES[2 + r.nextInt(NAMES.length - 2)];
            if (r.nextInt(400) == 0) {
                name = r.nextBoolean() ? "feed" : "season";
            }
            int n = Arrays.asList(NAMES).indexOf(name);
            int c = near(r, m.comers), h = near(r, m.houses), g = near(r, 48);
            switch (name) {
                case "feed": return new int[] {n, near(r, 256)};
                case "told": return new int[] {n, near(r, 14)};
                case "comer": return new int[] {n, c, near(r, 5)};
                case "house": return new int[] {n, h, near(r, 4)};
                case "prize": return new int[] {n, h, near(r, 8)};
                case "calls": case "pardon": case "gains": case "suits": return new int[] {n, c, h};
                case "sign": return new int[] {n, g, near(r, 2)};
                case "logged": return new int[] {n, near(r, 21), near(r, 5)};
                case "visit": return new int[] {n, r.nextBoolean() ? 0 : c, r.nextBoolean() ? 0 : h, g};
                case "day": case "drift": case "undo":
                    return new int[] {n, r.nextInt(4) == 0 ? near(r, 31) : 1 + r.nextInt(3)};
                case "mean": return new int[] {n, c, near(r, 8)};
                case "stuff": return new int[] {n, c, near(r, 10)};
                case "says": return new int[] {n, c, h, g, near(r, 2)};
                case "signs": return new int[] {n, c, h, near(r, 3)};
                case "clear": return new int[] {n, near(r, 8), near(r, 2)};
                case "letIn": return new int[] {n, c, g};
                case "round": return new int[] {n, c, near(r, 2)};
                case "dry": return new int[] {n, near(r, 61), near(r, 101)};
                case "meant": return new int[] {n, near(r, 5), near(r, 2 + r.nextInt(2))};
                case "couldBe": return new int[] {n, near(r, 3)};
                case "write": return new int[] {n, h, h >= 0 && h < m.houses && r.nextInt(4) != 0 ? m.now.from[h] : near(r, 41)};
                case "seed": return new int[] {n, r.nextInt(8) == 0 ? -1 - r.nextInt(5) : r.nextInt(Integer.MAX_VALUE)};
                case "keep": case "goBack": return new int[] {n, near(r, 2)};
                default: return new int[] {n};
            }
        }

        private static int near(Random r, int bound) {
            int way = r.nextInt(40);
            if (way == 0) {
                return bound;
            }
            if (way == 1) {
                return -1;
            }
            if (way == 2) {
                return r.nextInt();
            }
            return bound < 1 ? 0 : r.nextInt(bound);
        }

        static String show(int[] call) {
            String arguments = Arrays.toString(Arrays.copyOfRange(call, 1, call.length));
            return NAMES[call[0]] + arguments.replace('[', '(').replace(']', ')');
        }

        static int ask(GloveSigns x, int[] a) {
            switch (NAMES[a[0]]) {
                case "feed": return x.feed(a[1]);
                case "season": return x.season();
                case "fault": return x.fault();
                case "told": return x.told(a[1]);
                case "comer": return x.comer(a[1], a[2]);
                case "house": return x.house(a[1], a[2]);
                case "prize": return x.prize(a[1], a[2]);
                case "calls": return x.calls(a[1], a[2]);
                case "sign": return x.sign(a[1], a[2]);
                case "logged": return x.logged(a[1], a[2]);
                case "visit": return x.visit(a[1], a[2], a[3]);
                case "day": return x.day(a[1]);
                case "mean": return x.mean(a[1], a[2]);
                case "stuff": return x.stuff(a[1], a[2]);
                case "pardon": return x.pardon(a[1], a[2]);
                case "drift": return x.drift(a[1]);
                case "undo": return x.undo(a[1]);
                case "says": return x.says(a[1], a[2], a[3], a[4]);
                case "signs": return x.signs(a[1], a[2], a[3]);
                case "gains": return x.gains(a[1], a[2]);
                case "clear": return x.clear(a[1], a[2]);
                case "letIn": return x.letIn(a[1], a[2]);
                case "round": return x.round(a[1], a[2]);
                case "suits": return x.suits(a[1], a[2]);
                case "dry": return x.dry(a[1], a[2]);
                case "meant": return x.meant(a[1], a[2]);
                case "couldBe": return x.couldBe(a[1]);
                case "part": return x.part();
                case "write": return x.write(a[1], a[2]);
                case "judge": return x.judge();
                case "tear": return x.tear();
                case "seed": return x.seed(a[1]);
                case "keep": return x.keep(a[1]);
                default: return x.goBack(a[1]);
            }
        }
    }

    /** Section 2, copied whole. */
    static final class State {
        int days;
        boolean[] open = new boolean[6];
        int[] stuffs = new int[6], means = new int[6], from = new int[6];
        int[][] calls = new int[6][6], so = new int[6][6];
        boolean[][] sham = new boolean[6][6];
        List<int[]> log = new ArrayList<>();

        State copy() {
            State s = new State();
            s.days = days;
            s.open = open.clone();
            s.stuffs = stuffs.clone();
            s.means = means.clone();
            s.from = from.clone();
            for (int i = 0; i < 6; i++) {
                s.calls[i] = calls[i].clone();
                s.so[i] = so[i].clone();
                s.sham[i] = sham[i].clone();
            }
            s.log = new ArrayList<>(log);
            return s;
        }
    }

    static final class Model {
        String text = "";
        int fault = NONE, manners = NONE, comers, houses;
        int[] worth = new int[6], fern = new int[6];
        int[][] prizes = new int[6][8];
        State now = new State();
        Deque<State> undo = new ArrayDeque<>();
        State[] images = new State[2];
        long[] imageSeeds = new long[2];
        long seed;
        List<int[]> meant = new ArrayList<>(), book = new ArrayList<>();

        long ask(int[] a) {
            String name = Calls.NAMES[a[0]];
            boolean c = a.length > 1 && a[1] >= 0 && a[1] < comers;
            boolean h1 = a.length > 1 && a[1] >= 0 && a[1] < houses;
            boolean h2 = a.length > 2 && a[2] >= 0 && a[2] < houses;
            switch (name) {
                case "feed": return feed(a[1]);
                case "season": return season();
                case "fault": return fault;
                case "told": return told(a[1]);
                case "comer": return !c ? UNKNOWN : comer(a[1], a[2]);
                case "house": return !h1 ? UNKNOWN : house(a[1], a[2]);
                case "prize": return !h1 ? UNKNOWN : in(a[2], 0, 7) ? prizes[a[1]][a[2]] : OUTSIDE;
                case "calls": return c && h2 ? now.calls[a[1]][a[2]] : UNKNOWN;
                case "sign":
                    return !in(a[1], 0, 47) || !in(a[2], 0, 1) ? OUTSIDE : manners < 0 ? NOT
                        : a[2] == 0 ? means(a[1]) : said(a[1]) ? 1 : 0;
                case "logged":
                    return !in(a[2], 0, 4) ? OUTSIDE : in(a[1], 0, now.log.size() - 1) ? now.log.get(a[1])[a[2]] : NONE;
                case "visit":
                    if (!c || !h2) {
                        return UNKNOWN;
                    }
                    if (!in(a[3], 0, 47)) {
                        return OUTSIDE;
                    }
                    deed();
                    return visit(a[1], a[2], a[3]);
                case "day": case "drift": return days(a[1], name.equals("drift"));
                case "mean": return !c ? UNKNOWN : change(now.means, a[1], a[2], 7, true);
                case "stuff": return !c ? UNKNOWN : change(now.stuffs, a[1], a[2], 9, false);
                case "pardon": return c && h2 ? pardon(a[1], a[2]) : UNKNOWN;
                case "undo": return undo(a[1]);
                case "keep": case "goBack": return image(name, a[1]);
                case "seed":
                    if (a[1] < 0) {
                        return OUTSIDE;
                    }
                    long was = seed;
                    seed = a[1];
                    return was;
                default: return askMore(name, a, c, h1, h2);
            }
        }

        private long askMore(String name, int[] a, boolean c, boolean h1, boolean h2) {
            switch (name) {
                case "says":
                    return !c || !h2 ? UNKNOWN : !in(a[3], 0, 47) || !in(a[4], 0, 1) ? OUTSIDE
                        : a[4] == 0 ? hears(a[1], a[2], a[3]) : answer(a[1], a[2], a[3]);
                case "signs": return !c || !h2 ? UNKNOWN : !in(a[3], 0, 2) ? OUTSIDE : signs(a[1], a[2], a[3]);
                case "gains": return !c || !h2 ? UNKNOWN : gains(a[1], a[2]);
                case "clear": return !in(a[1], 0, 7) || !in(a[2], 0, 1) ? OUTSIDE : manners < 0 ? NOT : clear(a[1], a[2]);
                case "letIn": return !c ? UNKNOWN : !in(a[2], 0, 47) ? OUTSIDE : letIn(a[1], a[2]);
                case "round": return !c ? UNKNOWN : !in(a[2], 0, 1) ? OUTSIDE : round(a[1], a[2]);
                case "suits": return !c || !h2 ? UNKNOWN : suits(a[1], a[2]);
                case "dry": return !in(a[1], 0, 60) || !in(a[2], 0, 100) ? OUTSIDE : dry(a[1], a[2]);
                case "meant": return meant(a[1], a[2]);
                case "couldBe": return !in(a[1], 0, 2) ? OUTSIDE : manners < 0 ? NOT : couldBe(a[1]);
                case "part": return manners < 0 ? NOT : part();
                case "write": return !h1 ? UNKNOWN : write(a[1], a[2]);
                case "judge":
                    for (int i = 0; i < book.size(); i++) {
                        if (now.from[book.get(i)[0]] != book.get(i)[1]) {
                            return i;
                        }
                    }
                    return NONE;
                default:
                    int had = meant.size() + book.size();
                    meant.clear();
                    book.clear();
                    return had;
            }
        }

        static boolean in(long v, long low, long high) {
            return v >= low && v <= high;
        }

        private long feed(int letter) {
            if (!in(letter, 0, 255)) {
                return OUTSIDE;
            }
            if (text.length() == 240) {
                return FULL;
            }
            text += (char) letter;
            return text.length();
        }

        private long season() {
            Reading r = new Reading(text);
            text = "";
            fault = r.place;
            if (r.number != 0) {
                return -10 - r.number;
            }
            manners = r.manners;
            comers = r.comers.size();
            houses = r.houses.size();
            now = new State();
            for (int i = 0; i < comers; i++) {
                worth[i] = r.comers.get(i)[0];
                now.stuffs[i] = r.comers.get(i)[1];
                now.means[i] = r.comers.get(i)[2];
            }
            for (int i = 0; i < houses; i++) {
                int[] all = r.houses.get(i);
                now.from[i] = all[0];
                fern[i] = all[1];
                prizes[i] = Arrays.copyOfRange(all, 2, 10);
            }
            undo.clear();
            images = new State[2];
            meant.clear();
            book.clear();
            return comers;
        }

        private long told(int what) {
            int welcome = NONE, coldest = NONE, all = 0, open = 0, said = 0;
            for (int h = houses - 1; h >= 0; h--) {
                int here = callsAt(h);
                all += here;
                open |= now.open[h] ? 1 << h : 0;
                welcome = here > 0 && (welcome == NONE || here >= callsAt(welcome)) ? h : welcome;
                coldest = coldest == NONE || now.from[h] >= now.from[coldest] ? h : coldest;
            }
            for (int g = 0; g < 48; g++) {
                said += manners >= 0 && said(g) ? 1 : 0;
            }
            int[] answers = {manners, comers, houses, text.length(), now.days, open, all, welcome, coldest, said,
                now.log.size(), meant.size(), book.size(), undo.size()};
            return in(what, 0, 13) ? answers[what] : OUTSIDE;
        }

        private int callsAt(int h) {
            int sum = 0;
            for (int c = 0; c < 6; c++) {
                sum += now.calls[c][h];
            }
            return sum;
        }

        private long comer(int c, int what) {
            int shams = 0;
            for (int h = 0; h < houses; h++) {
                shams |= now.sham[c][h] ? 1 << h : 0;
            }
            int[] answers = {worth[c], now.stuffs[c], now.means[c], shams, match()[c]};
            return in(what, 0, 4) ? answers[what] : OUTSIDE;
        }

        private long house(int h, int what) {
            int matched = NONE;
            for (int c = 0; c < comers; c++) {
                matched = match()[c] == h ? c : matched;
            }
            int[] answers = {now.from[h], fern[h], matched, callsAt(h)};
            return in(what, 0, 3) ? answers[what] : OUTSIDE;
        }

        /** The stable match, found otherwise than by asking: rounds in which every comer without a house asks at once. */
        private int[] match() {
            int[] house = new int[comers];
            boolean[][] refused = new boolean[6][6];
            for (int turn = 0; turn < 50; turn++) {
                for (int c = 0; c < comers; c++) {
                    house[c] = NONE;
                    for (int h = houses - 1; h >= 0; h--) {
                        if (!refused[c][h] && suits(c, h) != NONE && (house[c] == NONE || suits(c, h) >= suits(c, house[c]))) {
                            house[c] = h;
                        }
                    }
                }
                for (int c = 0; c < comers; c++) {
                    for (int d = 0; d < comers; d++) {
                        boolean rivals = c != d && house[c] != NONE && house[c] == house[d];
                        if (rivals && (suits(d, house[c]) > suits(c, house[c]) || suits(d, house[c]) == suits(c, house[c]) && d < c)) {
                            refused[c][house[c]] = true;
                        }
                    }
                }
            }
            return house;
        }

        private int means(int g) {
            if (g >= 32) {
                return 7;
            }
            return g % 2 + g / 2 % 2 + 3 * (g / 4 % 2) + g / 8 % 2;
        }

        private boolean said(int g) {
            boolean left = g % 2 == 1, back = g / 2 % 2 == 1, crossed = g / 4 % 2 == 1, finger = g / 8 % 2 == 1;
            int thumb = g / 16;
            if (manners == 1 && crossed && thumb != 1) {
                return false;
            }
            return !(manners == 2 && (left && back || finger && thumb == 2));
        }

        private int hearsBy(int c, int h, int g, int stuffing) {
            int sum = worth[c] + stuffing + 3 * prizes[h][means(g)] - (said(g) ? 0 : 10);
            return sum < 0 ? 0 : sum;
        }

        private int hears(int c, int h, int g) {
            return hearsBy(c, h, g, now.sham[c][h] ? 0 : now.stuffs[c]);
        }

        private int answer(int c, int h, int g) {
            return hears(c, h, g) >= fern[h] ? 2 : hears(c, h, g) >= now.from[h] ? 1 : 0;
        }

        private void deed() {
            undo.push(now.copy());
            if (undo.size() > 30) {
                undo.removeLast();
            }
        }

        private int visit(int c, int h, int g) {
            int answer = answer(c, h, g);
            now.log.add(0, new int[] {now.days, c, h, g, answer});
            if (now.log.size() > 20) {
                now.log.remove(20);
            }
            if (answer > 0) {
                now.open[h] = true;
                now.calls[c][h] = Math.min(999, now.calls[c][h] + 1);
                now.so[c][h] += now.stuffs[c] >= 5 ? 1 : 0;
                now.sham[c][h] |= now.so[c][h] >= 3;
            }
            return answer;
        }

        private long draw(int n) {
            seed = (seed * 1103515245L + 12345L) % 2147483648L;
            return seed / 65536 % n;
        }

        private long days(int n, boolean draws) {
            if (!in(n, 1, 30)) {
                return OUTSIDE;
            }
            if (manners < 0) {
                return NOT;
            }
            for (int i = 0; i < n; i++) {
                deed();
                for (int k = 0; k < 2 && draws && comers > 0 && houses > 0; k++) {
                    int c = (int) draw(comers), h = (int) draw(houses), g = (int) draw(48);
                    visit(c, h, g);
                }
                for (int h = 0; h < houses; h++) {
                    now.from[h] = Math.max(0, Math.min(40, now.from[h] + (now.open[h] ? 1 : -1)));
                }
                now.open = new boolean[6];
                now.days++;
            }
            return now.days;
        }

        private long change(int[] row, int c, int n, int most, boolean meaning) {
            if (!in(n, 0, most)) {
                return OUTSIDE;
            }
            int was = row[c];
            deed();
            (meaning ? now.means : now.stuffs)[c] = n;
            return was;
        }

        private long pardon(int c, int h) {
            if (!now.sham[c][h]) {
                return NOT;
            }
            deed();
            int was = now.calls[c][h];
            now.sham[c][h] = false;
            now.calls[c][h] = 0;
            now.so[c][h] = 0;
            return was;
        }

        private long undo(int n) {
            if (!in(n, 1, 30)) {
                return OUTSIDE;
            }
            if (n > undo.size()) {
                return NOT;
            }
            for (int i = 0; i < n; i++) {
                now = undo.pop();
            }
            return now.days;
        }

        private long image(String name, int i) {
            if (!in(i, 0, 1)) {
                return UNKNOWN;
            }
            if (name.equals("keep")) {
                images[i] = now.copy();
                imageSeeds[i] = seed;
            } else if (images[i] == null) {
                return NOT;
            } else {
                now = images[i].copy();
                seed = imageSeeds[i];
            }
            undo.clear();
            return 1;
        }

        private long signs(int c, int h, int what) {
            int count = 0, plainest = NONE, honest = NONE;
            for (int g = 47; g >= 0; g--) {
                if (answer(c, h, g) == 0) {
                    continue;
                }
                count++;
                plainest = plainest == NONE || laid(g) <= laid(plainest) ? g : plainest;
                honest = said(g) && means(g) == now.means[c] ? g : honest;
            }
            return what == 0 ? count : what == 1 ? plainest : honest;
        }

        private int laid(int g) {
            return Integer.bitCount(g % 16) + (g >= 16 ? 1 : 0);
        }

        private long gains(int c, int h) {
            int with = 0, without = 0;
            for (int g = 0; g < 48; g++) {
                with = Math.max(with, hears(c, h, g));
                without = Math.max(without, hearsBy(c, h, g, 0));
            }
            return with - without;
        }

        private long clear(int meaning, int what) {
            int count = 0, least = NONE;
            for (int g = 47; g >= 0; g--) {
                if (said(g) && means(g) == meaning) {
                    count++;
                    least = g;
                }
            }
            return what == 0 ? count : least;
        }

        private long letIn(int c, int g) {
            long set = 0;
            for (int h = 0; h < houses; h++) {
                set += answer(c, h, g) > 0 ? 1 << h : 0;
            }
            return set;
        }

        private long round(int c, int what) {
            int best = 47;
            for (int g = 46; g >= 0; g--) {
                best = Long.bitCount(letIn(c, g)) >= Long.bitCount(letIn(c, best)) ? g : best;
            }
            return what == 0 ? Long.bitCount(letIn(c, best)) : best;
        }

        private int suits(int c, int h) {
            int most = NONE;
            for (int g = 0; g < 48; g++) {
                if (said(g) && means(g) == now.means[c]) {
                    most = Math.max(most, hears(c, h, g));
                }
            }
            return most;
        }

        private long dry(int n, int q) {
            return n == 0 ? 1000000000L : dry(n - 1, q) * q / 100;
        }

        private long meant(int part, int v) {
            if (!in(part, 0, 4) || !in(v, 0, part == 4 ? 2 : 1)) {
                return OUTSIDE;
            }
            if (meant.size() == 6) {
                return FULL;
            }
            meant.add(new int[] {part, v});
            return meant.size();
        }

        private static int partOf(int g, int part) {
            return part == 4 ? g / 16 : g >> part & 1;
        }

        private List<Integer> fits() {
            List<Integer> all = new ArrayList<>();
            for (int g = 0; g < 48; g++) {
                boolean fits = said(g);
                for (int[] m : meant) {
                    fits &= partOf(g, m[0]) == m[1];
                }
                if (fits) {
                    all.add(g);
                }
            }
            return all;
        }

        private long couldBe(int what) {
            List<Integer> all = fits();
            int set = 0;
            for (int g : all) {
                set |= 1 << means(g);
            }
            return what == 0 ? all.size() : what == 2 ? set : all.isEmpty() ? NONE : all.get(0);
        }

        private long part() {
            List<Integer> all = fits();
            int best = NONE, least = 1000;
            for (int part = 4; part >= 0; part--) {
                int[] counts = new int[3];
                for (int g : all) {
                    counts[partOf(g, part)]++;
                }
                int most = Math.max(counts[0], Math.max(counts[1], counts[2]));
                if (most < all.size() && most <= least) {
                    least = most;
                    best = part;
                }
            }
            return best;
        }

        private long write(int h, int l) {
            if (!in(l, 0, 40)) {
                return OUTSIDE;
            }
            if (book.size() == 20) {
                return FULL;
            }
            book.add(new int[] {h, l});
            return book.size();
        }
    }

    /** A text read by tokens: each a letter or a whole number, with its place. */
    static final class Reading {
        int number = 0, place = NONE, manners = NONE;
        List<int[]> comers = new ArrayList<>(), houses = new ArrayList<>();
        private final List<int[]> tokens = new ArrayList<>();
        private int next = 0;

        Reading(String text) {
            int i = 0;
            while (i < text.length()) {
                int start = i;
                while (i < text.length() && Character.digit(text.charAt(i), 10) >= 0 && text.charAt(i) < 128) {
                    i++;
                }
                if (i > start) {
                    boolean long4 = i - start > 3;
                    tokens.add(new int[] {'0', start, long4 ? 1000 : Integer.parseInt(text.substring(start, i))});
                } else {
                    if (text.charAt(i) != ' ') {
                        tokens.add(new int[] {text.charAt(i), start, 0});
                    }
                    i++;
                }
            }
            tokens.add(new int[] {-1, text.length(), 0});
            while (number == 0 && tokens.get(next)[0] != -1) {
                clause();
            }
        }

        private void clause() {
            int[] head = tokens.get(next++);
            int[] bounds;
            if (head[0] == 's') {
                bounds = new int[] {2};
            } else if (head[0] == 'c' && manners >= 0) {
                bounds = new int[] {9, 9, 7};
            } else if (head[0] == 'h' && manners >= 0) {
                bounds = new int[] {40, 40, 9, 9, 9, 9, 9, 9, 9, 9};
            } else {
                fail(1, head);
                return;
            }
            if (head[0] == 's' && manners >= 0 || head[0] == 'c' && comers.size() == 6 || head[0] == 'h' && houses.size() == 6) {
                fail(3, head);
                return;
            }
            int[] values = new int[bounds.length];
            for (int i = 0; i < bounds.length; i++) {
                if (i > 2 && head[0] == 'h') {
                    if (tokens.get(next)[0] != ',') {
                        break;
                    }
                    next++;
                }
                int[] t = tokens.get(next);
                if (t[0] != '0' || t[2] > bounds[i]) {
                    fail(t[0] != '0' ? 1 : 2, t);
                    return;
                }
                values[i] = t[2];
                next++;
            }
            if (tokens.get(next)[0] != ';') {
                fail(1, tokens.get(next));
                return;
            }
            next++;
            manners = head[0] == 's' ? values[0] : manners;
            if (head[0] != 's') {
                (head[0] == 'c' ? comers : houses).add(values);
            }
        }

        private void fail(int what, int[] token) {
            number = what;
            place = token[1];
        }
    }
}
