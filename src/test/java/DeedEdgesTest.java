/** The edges of section 2 and of deeds, promises 12 to 18: each sentence by its case and its neighbours. */
public final class DeedEdgesTest extends Edges {
    public static void main(String[] args) {
        mumbledLess();
        hadUpFrom();
        fernFrom();
        shamHeard();
        visitAnswers();
        callsOneMore();
        callsEnd();
        shamByStuffing();
        shamByTimes();
        shamAnew();
        hardening();
        hardeningByDay();
        dayBounds();
        daysFull();
        meanBounds();
        stuffBounds();
        pardons();
        pardonNot();
        driftBounds();
        draws();
        nobodyToDraw();
        undoBounds();
        undoKeepsThirty();
        undoEachDeed();
        undoSince();
        lastCalls();
        end();
    }

    private static void mumbledLess() {
        sentence("10 less, if it is MUMBLED (0 at least).");
        // Sign 4 is mumbled by manners 1, and means 3; sign 20 means 3 and is said.
        GloveSigns x = of("s1;c9 0 0;h1 40 0;h0 0 0;h1 40 0,0,0,9;");
        int[] heard = {0, 0, 1, 2};
        for (int k = 0; k < heard.length; k++) {
            x.stuff(0, k);
            due("of " + (9 + k) + ", mumbled", x.says(0, 0, 4, 0), heard[k]);
            due("of " + (9 + k) + ", said", x.says(0, 0, 20, 0), 9 + k);
            due("answer", x.says(0, 0, 4, 1), heard[k] >= 1 ? 1 : 0);
            due("prize 9, mumbled", x.says(0, 2, 4, 0), 26 + k);
            due("prize 9, said", x.says(0, 2, 20, 0), 36 + k);
        }
        GloveSigns y = of("s2;c0 0 0;h0 0 0;h0 1 0;h1 1 0;");
        due("of 0, mumbled", y.says(0, 0, 3, 0), 0);
        due("0 is enough for F 0", y.says(0, 0, 3, 1), 2);
        due("0 is enough for L 0", y.says(0, 1, 3, 1), 1);
        due("0 is not enough for L 1", y.says(0, 2, 3, 1), 0);
    }

    private static void hadUpFrom() {
        sentence("0 OUT; 1 HAD UP, if it HEARS L or more;");
        for (int l : new int[] {0, 1, 12, 18, 39, 40}) {
            // The comer is worth 9, and stuffs by 0 .. 9; signs 0 and 1 mean 0 and 1.
            GloveSigns x = of("s0;c9 0 0;h" + l + " 40 0,1,2,3,4,5,6,7;");
            for (int k = 0; k <= 9; k++) {
                x.stuff(0, k);
                for (int g : new int[] {0, 1, 3, 4, 5, 7, 15}) {
                    int heard = 9 + k + 3 * x.sign(g, 0);
                    int answer = heard >= 40 ? 2 : heard >= l ? 1 : 0;
                    due("hears " + heard + " of L " + l, x.says(0, 0, g, 1), answer);
                }
            }
        }
        GloveSigns y = of("s0;c5 0 0;h12 40 0;");
        y.stuff(0, 6);
        due("11 of 12", y.visit(0, 0, 0), 0);
        y.stuff(0, 7);
        due("12 of 12", y.visit(0, 0, 0), 1);
        y.stuff(0, 8);
        due("13 of 12", y.visit(0, 0, 0), 1);
    }

    private static void fernFrom() {
        sentence("2 FERN, if it HEARS F or more (whatever L).");
        for (int l : new int[] {0, 11, 12, 13, 40}) {
            GloveSigns x = of("s0;c5 0 0;h" + l + " 12 0;");
            for (int k = 5; k <= 9; k++) {
                x.stuff(0, k);
                int heard = 5 + k;
                due("hears " + heard + " of F 12, L " + l, x.says(0, 0, 0, 1), heard >= 12 ? 2 : heard >= l ? 1 : 0);
            }
        }
        GloveSigns y = of("s0;c0 0 0;h40 0 0;h40 1 0;h0 40 9,9,9,9,9,9,9,9;");
        due("0 of F 0, L 40", y.visit(0, 0, 0), 2);
        due("0 of F 1, L 40", y.visit(0, 1, 0), 0);
        y.stuff(0, 9);
        due("36 of F 40", y.visit(0, 2, 0), 1);
        GloveSigns z = of("s0;c4 9 0;h0 40 9;");
        due("40 of F 40", z.says(0, 0, 0, 1), 2);
        z.stuff(0, 8);
        due("39 of F 40", z.says(0, 0, 0, 1), 1);
    }

    private static void shamHeard() {
        sentence("by how much he STUFFS (0, if he is a KNOWN SHAM there)");
        GloveSigns x = of("s0;c1 9 0;h10 40 0;h10 40 0;");
        visits(x, 2, 0, 0, 0);
        due("ahead of it", x.says(0, 0, 0, 0), 10);
        due("the third is let in still", x.visit(0, 0, 0), 1);
        due("there", x.says(0, 0, 0, 0), 1);
        due("elsewhere", x.says(0, 1, 0, 0), 10);
        due("the fourth is out", x.visit(0, 0, 0), 0);
        due("let in elsewhere", x.visit(0, 1, 0), 1);
        x.stuff(0, 3);
        due("there, stuffing by 3", x.says(0, 0, 0, 0), 1);
        due("elsewhere, stuffing by 3", x.says(0, 1, 0, 0), 4);
        x.stuff(0, 9);
        x.pardon(0, 0);
        due("behind a pardon", x.says(0, 0, 0, 0), 10);
    }

    private static void visitAnswers() {
        sentence("A VISIT: the answer. UNKNOWN, OUTSIDE.");
        GloveSigns x = of("s0;c5 0 0;h6 40 0;h5 40 0;h40 5 0;");
        due("out", x.visit(0, 0, 0), 0);
        due("had up", x.visit(0, 1, 0), 1);
        due("fern", x.visit(0, 2, 0), 2);
        due("sign 47", x.visit(0, 2, 47), 2);
        due("sign 48", x.visit(0, 2, 48), OUTSIDE);
        due("sign -1", x.visit(0, 2, -1), OUTSIDE);
        due("house 3", x.visit(0, 3, 0), UNKNOWN);
        due("house -1", x.visit(0, -1, 0), UNKNOWN);
        due("comer 1", x.visit(1, 0, 0), UNKNOWN);
        due("comer -1", x.visit(-1, 0, 0), UNKNOWN);
        due("without a season", new GloveSigns().visit(0, 0, 0), UNKNOWN);
        due("log of four", x.told(10), 4);
    }

    private static void callsOneMore() {
        sentence("HAD UP, or FERN: his CALLS there are one more");
        GloveSigns x = of("s0;c5 0 0;h6 40 0;h5 40 0;h40 5 0;");
        for (int h = 0; h < 3; h++) {
            x.visit(0, h, 0);
            due("calls at " + h, x.calls(0, h), h == 0 ? 0 : 1);
        }
    }

    private static void callsEnd() {
        sentence("his CALLS there are one more (999 at most);");
        GloveSigns x = of("s0;c9 9 0;h0 0 0;");
        for (int i = 0; i < 16; i++) {
            x.drift(30);
        }
        x.drift(18);
        due("996", x.calls(0, 0), 996);
        for (int calls : new int[] {997, 998, 999, 999, 999}) {
            due("let in", x.visit(0, 0, 0), 2);
            due("calls", x.calls(0, 0), calls);
        }
        due("of the house", x.house(0, 3), 999);
        due("of all", x.told(6), 999);
        due("undo of one beyond the end", x.undo(1), 498);
        due("calls", x.calls(0, 0), 999);
        x.undo(2);
        due("calls", x.calls(0, 0), 998);
        visits(x, 2, 0, 0, 0);
        x.drift(1);
        due("by draws", x.calls(0, 0), 999);
        due("pardoned of 999", x.pardon(0, 0), 999);
        due("calls", x.calls(0, 0), 0);
        GloveSigns y = of("s0;c9 0 0;c8 0 0;h0 0 0;");
        for (int i = 0; i < 40; i++) {
            y.drift(30);
        }
        due("999 of the first", y.calls(0, 0), 999);
        due("999 of the second", y.calls(1, 0), 999);
        due("1998 of the house", y.house(0, 3), 1998);
        due("1998 of all", y.told(6), 1998);
    }

    private static void shamByStuffing() {
        sentence("if he STUFFS by 5 or more, and has been let in there so 3 times");
        for (int k = 0; k <= 9; k++) {
            GloveSigns x = of("s0;c9 " + k + " 0;h0 40 0;");
            visits(x, 2, 0, 0, 0);
            due("twice by " + k, x.comer(0, 3), 0);
            x.visit(0, 0, 0);
            due("three times by " + k, x.comer(0, 3), k >= 5 ? 1 : 0);
            visits(x, 5, 0, 0, 0);
            due("eight times by " + k, x.comer(0, 3), k >= 5 ? 1 : 0);
        }
    }

    private static void shamByTimes() {
        sentence("has been let in there so 3 times (counted anew behind a PARDON), he is a KNOWN SHAM there from then on.");
        GloveSigns x = of("s0;c9 4 0;c0 5 0;h0 40 0;h10 40 0;");
        visits(x, 4, 1, 1, 0);
        due("not let in: no sham", x.comer(1, 3), 0);
        visits(x, 9, 0, 0, 0);
        x.stuff(0, 5);
        due("nine times by 4", x.comer(0, 3), 0);
        visits(x, 2, 0, 0, 0);
        due("and twice by 5", x.comer(0, 3), 0);
        x.stuff(0, 4);
        visits(x, 2, 0, 0, 0);
        due("and twice by 4", x.comer(0, 3), 0);
        x.day(30);
        x.stuff(0, 5);
        x.visit(0, 0, 0);
        due("and the third time by 5, on another day", x.comer(0, 3), 1);
        x.stuff(0, 0);
        due("from then on, without stuffing", x.comer(0, 3), 1);
        x.day(1);
        due("from then on, the next day", x.comer(0, 3), 1);
        visits(x, 2, 1, 0, 0);
        due("twice", x.comer(1, 3), 0);
        x.visit(1, 0, 0);
        due("three times", x.comer(1, 3), 1);
        GloveSigns y = of("s0;c9 9 0;c9 9 0;h0 40 0;h0 40 0;");
        visits(y, 2, 0, 0, 0);
        visits(y, 2, 0, 1, 0);
        visits(y, 2, 1, 0, 0);
        visits(y, 2, 1, 1, 0);
        due("twice each, the first", y.comer(0, 3), 0);
        due("twice each, the second", y.comer(1, 3), 0);
        y.visit(1, 0, 0);
        due("the second at 0", y.comer(1, 3), 1);
        y.visit(1, 1, 0);
        due("the second at 1, too", y.comer(1, 3), 3);
        due("the first still", y.comer(0, 3), 0);
        GloveSigns z = of("s0;c9 9 0;h0 18 0;");
        visits(z, 3, 0, 0, 0);
        due("by fern, too", z.comer(0, 3), 1);
    }

    private static void shamAnew() {
        sentence("(counted anew behind a PARDON)");
        GloveSigns x = of("s0;c9 9 0;h0 40 0;");
        visits(x, 5, 0, 0, 0);
        x.pardon(0, 0);
        due("pardoned", x.comer(0, 3), 0);
        visits(x, 2, 0, 0, 0);
        due("twice since", x.comer(0, 3), 0);
        x.visit(0, 0, 0);
        due("three times since", x.comer(0, 3), 1);
        due("calls since", x.pardon(0, 0), 3);
        x.stuff(0, 4);
        visits(x, 4, 0, 0, 0);
        due("four times by 4 since", x.comer(0, 3), 0);
    }

    private static void hardening() {
        sentence("L is one more, if somebody was HAD UP there that day or had FERN (40 at most), else one less (0 at least);"
            + " DAYS are one more.");
        GloveSigns x = of("s0;c9 0 0;h38 0 0;h39 0 0;h40 0 0;h2 40 0;h1 40 0;h0 40 0;");
        int[][] open = {{39, 40, 40}, {40, 40, 40}, {40, 40, 40}};
        int[][] shut = {{1, 0, 0}, {0, 0, 0}, {0, 0, 0}};
        for (int day = 0; day < 3; day++) {
            for (int h = 0; h < 3; h++) {
                x.visit(0, h, 0);
            }
            due("day", x.day(1), day + 1);
            for (int h = 0; h < 3; h++) {
                due("open house " + h, x.house(h, 0), open[day][h]);
                due("shut house " + (h + 3), x.house(h + 3, 0), shut[day][h]);
            }
        }
        x.day(1);
        due("40 and shut", x.house(2, 0), 39);
        x.visit(0, 5, 0);
        x.day(1);
        due("0 and open", x.house(5, 0), 1);
        due("F stays", x.house(2, 1), 0);
    }

    private static void hardeningByDay() {
        sentence("if somebody was HAD UP there that day or had FERN");
        GloveSigns x = of("s0;c5 0 0;c4 0 0;h5 40 0;h40 5 0;h6 40 0;");
        for (int h = 0; h < 3; h++) {
            x.visit(0, h, 0);
            x.visit(1, h, 0);
        }
        x.day(1);
        due("had up", x.house(0, 0), 6);
        due("fern, 40 at most", x.house(1, 0), 40);
        due("out", x.house(2, 0), 5);
        x.day(1);
        due("nobody that day", x.house(0, 0), 5);
        due("nobody that day, fern", x.house(1, 0), 39);
        x.visit(0, 1, 0);
        x.visit(0, 1, 0);
        x.day(2);
        due("once more for two of one day, then less", x.house(1, 0), 39);
        GloveSigns y = of("s0;c9 9 0;h5 40 0;");
        visits(y, 3, 0, 0, 0);
        y.pardon(0, 0);
        y.day(1);
        due("pardoned, yet had up that day", y.house(0, 0), 6);
    }

    private static void dayBounds() {
        sentence("n DAYS (1 .. 30): DAYS. OUTSIDE, NOT: no SEASON;");
        GloveSigns x = of("s0;h40 40 0;");
        due("day(0)", x.day(0), OUTSIDE);
        due("day(1)", x.day(1), 1);
        due("day(2)", x.day(2), 3);
        due("day(29)", x.day(29), 32);
        due("L", x.house(0, 0), 8);
        due("day(30)", x.day(30), 62);
        due("L", x.house(0, 0), 0);
        due("day(31)", x.day(31), OUTSIDE);
        due("day(-1)", x.day(-1), OUTSIDE);
        due("day(MIN)", x.day(MIN), OUTSIDE);
        due("day(MAX)", x.day(MAX), OUTSIDE);
        due("days", x.told(4), 62);
        GloveSigns y = new GloveSigns();
        due("no season", y.day(1), NOT);
        due("no season, 30", y.day(30), NOT);
        due("no season, 31", y.day(31), OUTSIDE);
        due("no season, 0", y.day(0), OUTSIDE);
        due("days without a season", y.told(4), 0);
        due("a season of manners alone", of("s0;").day(30), 30);
    }

    /** So many days take more than 512 calls, behind which answers are free; this class answers on as told. */
    private static GloveSigns atDay(int days) {
        GloveSigns x = of("s0;c9 0 0;h0 40 0;");
        for (int i = 0; i < days / 30; i++) {
            x.day(30);
        }
        if (days % 30 > 0) {
            x.day(days % 30);
        }
        due("days", x.told(4), days);
        return x;
    }

    private static void daysFull() {
        sentence("`int day(int n)`: n DAYS (1 .. 30): DAYS. OUTSIDE, NOT: no SEASON; FULL: DAYS are above 90000.");
        GloveSigns x = atDay(89999);
        due("from 89999", x.day(1), 90000);
        due("from 90000", x.day(1), 90001);
        due("from 90001", x.day(1), FULL);
        due("by draws", x.drift(1), FULL);
        due("out of its bounds", x.day(31), OUTSIDE);
        due("days", x.told(4), 90001);
        due("a visit is none of them", x.visit(0, 0, 0), 1);
        due("its day", x.logged(0, 0), 90001);
        due("undone", x.undo(2), 90000);
        due("once more from 90000", x.day(30), 90030);
        due("from 90030", x.day(30), FULL);
        sentence("`int drift(int n)`: n DAYS BY DRAWS (1 .. 30): DAYS. OUTSIDE, NOT: no SEASON; FULL: DAYS are above 90000.");
        GloveSigns y = atDay(89999);
        due("from 89999", y.drift(1), 90000);
        due("from 90000", y.drift(30), 90030);
        y.seed(7);
        due("from 90030", y.drift(1), FULL);
        due("out of its bounds", y.drift(0), OUTSIDE);
        due("nothing was drawn", y.seed(0), 7);
    }

    private static void meanBounds() {
        sentence("He MEANS n (0 .. 7): what he MEANT. UNKNOWN, OUTSIDE.");
        GloveSigns x = of("s0;c1 2 3;c4 5 6;");
        due("mean -1", x.mean(0, -1), OUTSIDE);
        due("mean 0", x.mean(0, 0), 3);
        due("mean 7", x.mean(0, 7), 0);
        due("mean 8", x.mean(0, 8), OUTSIDE);
        due("mean MIN", x.mean(0, MIN), OUTSIDE);
        due("mean MAX", x.mean(0, MAX), OUTSIDE);
        due("the same again", x.mean(0, 7), 7);
        due("means", x.comer(0, 2), 7);
        due("the other means", x.comer(1, 2), 6);
        due("comer 2", x.mean(2, 0), UNKNOWN);
        due("comer -1", x.mean(-1, 0), UNKNOWN);
        due("three deeds", x.told(13), 3);
    }

    private static void stuffBounds() {
        sentence("He STUFFS by n (0 .. 9): by how much he did. UNKNOWN, OUTSIDE.");
        GloveSigns x = of("s0;c1 2 3;c4 5 6;");
        due("stuff -1", x.stuff(1, -1), OUTSIDE);
        due("stuff 0", x.stuff(1, 0), 5);
        due("stuff 9", x.stuff(1, 9), 0);
        due("stuff 10", x.stuff(1, 10), OUTSIDE);
        due("stuff MIN", x.stuff(1, MIN), OUTSIDE);
        due("stuff MAX", x.stuff(1, MAX), OUTSIDE);
        due("the same again", x.stuff(1, 9), 9);
        due("stuffs", x.comer(1, 1), 9);
        due("the other stuffs", x.comer(0, 1), 2);
        due("comer 2", x.stuff(2, 0), UNKNOWN);
        due("comer -1", x.stuff(-1, 0), UNKNOWN);
        due("three deeds", x.told(13), 3);
    }

    private static void pardons() {
        sentence("a HOUSE PARDONS a KNOWN SHAM (CALLS 0 there).");
        GloveSigns x = of("s0;c9 9 0;c9 9 0;h0 40 0;h0 40 0;");
        visits(x, 4, 0, 0, 0);
        visits(x, 3, 0, 1, 0);
        visits(x, 3, 1, 0, 0);
        due("pardoned", x.pardon(0, 0), 4);
        due("there", x.calls(0, 0), 0);
        due("elsewhere", x.calls(0, 1), 3);
        due("another", x.calls(1, 0), 3);
        due("a sham elsewhere", x.comer(0, 3), 2);
        due("another is a sham still", x.comer(1, 3), 1);
        due("of the house", x.house(0, 3), 3);
        due("of all", x.told(6), 6);
        due("the log stays", x.told(10), 10);
    }

    private static void pardonNot() {
        sentence("PARDONED: what his CALLS were. UNKNOWN, NOT: he is no KNOWN SHAM there.");
        GloveSigns x = of("s0;c9 5 0;h0 40 0;h0 40 0;");
        due("never there", x.pardon(0, 0), NOT);
        visits(x, 2, 0, 0, 0);
        due("twice there", x.pardon(0, 0), NOT);
        due("calls stay", x.calls(0, 0), 2);
        x.visit(0, 0, 0);
        due("elsewhere", x.pardon(0, 1), NOT);
        due("house 2", x.pardon(0, 2), UNKNOWN);
        due("house -1", x.pardon(0, -1), UNKNOWN);
        due("comer 1", x.pardon(1, 0), UNKNOWN);
        due("comer -1", x.pardon(-1, 0), UNKNOWN);
        due("three times there", x.pardon(0, 0), 3);
        due("again", x.pardon(0, 0), NOT);
        due("without a season", new GloveSigns().pardon(0, 0), UNKNOWN);
    }

    private static void driftBounds() {
        sentence("n DAYS BY DRAWS (1 .. 30): DAYS. OUTSIDE, NOT: no SEASON;");
        GloveSigns x = of("s0;c9 0 0;h0 40 0;");
        due("drift(0)", x.drift(0), OUTSIDE);
        due("drift(1)", x.drift(1), 1);
        due("log", x.told(10), 2);
        due("drift(29)", x.drift(29), 30);
        due("drift(30)", x.drift(30), 60);
        due("drift(31)", x.drift(31), OUTSIDE);
        due("drift(-1)", x.drift(-1), OUTSIDE);
        due("drift(MIN)", x.drift(MIN), OUTSIDE);
        due("drift(MAX)", x.drift(MAX), OUTSIDE);
        due("days", x.told(4), 60);
        GloveSigns y = new GloveSigns();
        due("no season", y.drift(1), NOT);
        due("no season, 30", y.drift(30), NOT);
        due("no season, 31", y.drift(31), OUTSIDE);
        due("no season, 0", y.drift(0), OUTSIDE);
        due("nothing was drawn", y.seed(0), 0);
    }

    private static void draws() {
        sentence("each DRAW it becomes it times 1103515245 and 12345, left over by 2 to the 31;");
        for (int seed : new int[] {0, 1, 2, 65535, 65536, 1103515245, 1073741823, 1073741824, MAX - 1, MAX}) {
            GloveSigns x = of("s0;" + "c9 0 0;".repeat(5) + "h0 40 0;".repeat(6));
            x.seed(seed);
            due("drift", x.drift(2), 2);
            long next = seed;
            int[] modulus = {5, 6, 48};
            for (int i = 3; i >= 0; i--) {
                due("day of visit " + i, x.logged(i, 0), i > 1 ? 0 : 1);
                for (int k = 0; k < 3; k++) {
                    next = (next * 1103515245L + 12345L) % 2147483648L;
                    due("seed " + seed + ", visit " + i + ", draw " + k, x.logged(i, k + 1), next / 65536 % modulus[k]);
                }
            }
            due("seed then", x.seed(0), next);
        }
        sentence("the DRAW of n is it / 65536, left over by n): n DAYS:");
        // 65535 is the last that draws 0, 65536 the first that draws 1.
        long[] leads = seedsThatLeadTo(65535, 65536, 131071, 131072, MAX, 0);
        int[] firsts = {0, 1, 1, 2, 32767 % 6, 0};
        for (int i = 0; i < leads.length; i++) {
            GloveSigns w = of("s0;" + "c9 0 0;".repeat(6) + "h0 40 0;");
            w.seed((int) leads[i]);
            w.drift(1);
            due("the first draw, seed " + leads[i], w.logged(1, 1), firsts[i]);
            due("a draw of 1", w.logged(1, 2), 0);
        }
        sentence("THE SEED (0 at first:");
        GloveSigns y = of("s0;c9 0 0;h0 40 0;");
        y.drift(1);
        // 12345, 1406932606, 654583775, 1449466924, 229283573, 1109335178: by hand from 0.
        due("the first sign: 654583775 / 65536 = 9988, by 48", y.logged(1, 3), 4);
        due("the second sign: 1109335178 / 65536 = 16927, by 48", y.logged(0, 3), 31);
        due("the seed", y.seed(0), 1109335178);
        sentence("ahead of each, if there are COMERS and HOUSES, twice a DRAW of COMERS, of HOUSES, of 48: a VISIT by that SIGN.");
        GloveSigns z = of("s0;c9 0 0;h0 40 0;");
        z.drift(3);
        int[] days = {2, 2, 1, 1, 0, 0};
        for (int i = 0; i < 6; i++) {
            due("visit " + i + " is of the day that ends", z.logged(i, 0), days[i]);
        }
        due("six visits", z.told(10), 6);
        due("L: one more each day", z.house(0, 0), 3);
    }

    /** The step can be gone back: 1103515245 is odd, so that it has an inverse by 2 to the 31. */
    private static long[] seedsThatLeadTo(long... nexts) {
        long inverse = 1;
        for (int i = 0; i < 6; i++) {
            inverse = inverse * (2 - 1103515245L * inverse) & MAX;
        }
        long[] seeds = new long[nexts.length];
        for (int i = 0; i < nexts.length; i++) {
            seeds[i] = (nexts[i] - 12345) * inverse & MAX;
            due("leads", (seeds[i] * 1103515245L + 12345) % 2147483648L, nexts[i]);
        }
        return seeds;
    }

    private static void nobodyToDraw() {
        sentence("if there are COMERS and HOUSES");
        for (String text : new String[] {"s0;", "s0;c9 0 0;", "s0;h5 40 0;"}) {
            GloveSigns x = of(text);
            x.seed(9);
            due("days of " + text, x.drift(3), 3);
            due("nothing drawn of " + text, x.seed(0), 9);
            due("no visits of " + text, x.told(10), 0);
            due("undone of " + text, x.told(13), 3);
        }
        GloveSigns y = of("s0;h5 40 0;");
        y.drift(3);
        due("L is less all the same", y.house(0, 0), 2);
        GloveSigns z = of("s0;c9 0 0;h5 40 0;");
        z.seed(9);
        z.drift(1);
        due("with both it is drawn", z.seed(0) == 9 ? 1 : 0, 0);
    }

    private static void undoBounds() {
        sentence("The n latest (1 .. 30) are undone: DAYS. OUTSIDE, NOT: not so many.");
        GloveSigns x = of("s0;c1 1 0;h0 40 0;");
        due("none to undo", x.undo(1), NOT);
        x.day(3);
        due("undo(0)", x.undo(0), OUTSIDE);
        due("undo(-1)", x.undo(-1), OUTSIDE);
        due("undo(31)", x.undo(31), OUTSIDE);
        due("undo(MIN)", x.undo(MIN), OUTSIDE);
        due("undo(MAX)", x.undo(MAX), OUTSIDE);
        due("undo(30) of 3", x.undo(30), NOT);
        due("undo(4) of 3", x.undo(4), NOT);
        due("days stay", x.told(4), 3);
        due("undo(1) of 3", x.undo(1), 2);
        due("left", x.told(13), 2);
        due("undo(3) of 2", x.undo(3), NOT);
        due("undo(2) of 2", x.undo(2), 0);
        due("left", x.told(13), 0);
        due("undo(1) of 0", x.undo(1), NOT);
        due("without a season", new GloveSigns().undo(1), NOT);
        due("without a season, 31", new GloveSigns().undo(31), OUTSIDE);
    }

    private static void undoKeepsThirty() {
        sentence("since the text or IMAGE (30 at most are kept)");
        for (int deeds = 29; deeds <= 32; deeds++) {
            GloveSigns x = of("s0;h40 40 0;");
            for (int i = 0; i < deeds; i++) {
                x.day(1);
            }
            due("kept of " + deeds, x.told(13), Math.min(deeds, 30));
            due("undo(30) of " + deeds, x.undo(30), deeds < 30 ? NOT : deeds - 30);
            due("L", x.house(0, 0), deeds < 30 ? 11 : 40 - (deeds - 30));
            due("left", x.told(13), deeds < 30 ? 29 : 0);
            due("undo(29) then", x.undo(29), deeds < 30 ? 0 : NOT);
        }
        GloveSigns y = of("s0;h40 40 0;");
        y.day(30);
        y.day(20);
        due("kept of 50", y.told(13), 30);
        due("undo(15)", y.undo(15), 35);
        y.day(10);
        due("kept", y.told(13), 25);
        due("undo(25)", y.undo(25), 20);
        due("no more", y.undo(1), NOT);
        due("L as ahead", y.house(0, 0), 20);
    }

    private static void undoEachDeed() {
        sentence("UNDONE: the latest deeds (each DAY, visit(), mean(), stuff(), pardon(), each DAY BY DRAWS)");
        GloveSigns x = of("s0;c9 5 1;h0 40 0;");
        visits(x, 3, 0, 0, 0);
        due("visits", x.told(13), 3);
        x.mean(0, 2);
        due("mean", x.told(13), 4);
        x.stuff(0, 6);
        due("stuff", x.told(13), 5);
        x.pardon(0, 0);
        due("pardon", x.told(13), 6);
        x.day(2);
        due("two days", x.told(13), 8);
        x.drift(3);
        due("three days by draws", x.told(13), 11);
        x.meant(0, 0);
        x.write(0, 0);
        x.tear();
        x.seed(5);
        x.feed('s');
        due("no deeds", x.told(13), 11);
        sentence("all of section 2 (MEANINGS, STUFFING, L, too) is as ahead of them; THE SEED stays.");
        due("a day by draws", x.undo(1), 4);
        due("log", x.told(10), 7);
        due("L", x.house(0, 0), 2);
        due("the seed stays", x.seed(6), 5);
        due("two more", x.undo(2), 2);
        due("log", x.told(10), 3);
        due("a day", x.undo(1), 1);
        due("L", x.house(0, 0), 1);
        due("the first day", x.undo(1), 0);
        due("L", x.house(0, 0), 0);
        due("open today", x.told(5), 1);
        due("no sham yet", x.comer(0, 3), 0);
        x.undo(1);
        due("the pardon", x.comer(0, 3), 1);
        due("calls", x.calls(0, 0), 3);
        x.undo(1);
        due("the stuffing", x.comer(0, 1), 5);
        x.undo(1);
        due("the meaning", x.comer(0, 2), 1);
        x.undo(1);
        due("the third visit: the sham", x.comer(0, 3), 0);
        due("the third visit: calls", x.calls(0, 0), 2);
        due("the third visit: log", x.told(10), 2);
        x.visit(0, 0, 0);
        due("the third visit again", x.comer(0, 3), 1);
        x.undo(2);
        x.visit(0, 0, 0);
        due("twice, as counted ahead of what was undone", x.comer(0, 3), 0);
        x.visit(0, 0, 0);
        due("three times", x.comer(0, 3), 1);
        x.undo(3);
        due("open today", x.told(5), 0);
        due("log", x.logged(0, 0), NONE);
        due("the seed stays", x.seed(0), 6);
    }

    private static void undoSince() {
        sentence("since the text or IMAGE");
        GloveSigns x = of("s0;c9 5 1;h0 40 0;");
        x.day(2);
        x.keep(0);
        due("behind keep", x.undo(1), NOT);
        x.day(1);
        due("one since", x.undo(2), NOT);
        due("the one", x.undo(1), 2);
        x.day(3);
        x.goBack(0);
        due("behind goBack", x.undo(1), NOT);
        x.day(1);
        x.goBack(1);
        due("goBack refused", x.told(13), 1);
        x.keep(2);
        due("keep refused", x.told(13), 1);
        feedAll(x, "s3;");
        x.season();
        due("a text with a fault", x.undo(1), 2);
        x.day(1);
        feedAll(x, "s0;");
        x.season();
        due("a text", x.undo(1), NOT);
    }

    private static void lastCalls() {
        sentence("An object is used for at most 512 calls after it has been made;");
        GloveSigns x = new GloveSigns();
        feedAll(x, "s0;c9 9 0;h0 0 0;");
        x.season();
        // 18 calls are made by now.
        for (int i = 19; i <= 509; i++) {
            due("call " + i, x.drift(30), (i - 18) * 30);
        }
        due("call 510", x.undo(30), 14700);
        due("call 511", x.logged(19, 0), 14690);
        due("call 512", x.calls(0, 0), 999);
    }
}
