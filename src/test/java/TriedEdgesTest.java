/** The edges of what is tried, promises 19 to 26: each sentence by its case and its neighbours. */
public final class TriedEdgesTest extends Edges {
    public static void main(String[] args) {
        saysBounds();
        signsCounted();
        plainest();
        honest();
        signsBounds();
        gains();
        clear();
        clearBounds();
        letIn();
        round();
        suits();
        comersAsk();
        housesKeep();
        unmatched();
        matchedAll();
        dryBounds();
        dryCut();
        end();
    }

    private static void saysBounds() {
        sentence("SAYS: what = 0 what it HEARS, 1 the answer. UNKNOWN, OUTSIDE.");
        GloveSigns x = of("s0;c5 4 0;h9 12 0,1;h10 40 0;");
        due("what -1", x.says(0, 0, 0, -1), OUTSIDE);
        due("what 0", x.says(0, 0, 0, 0), 9);
        due("what 1", x.says(0, 0, 0, 1), 1);
        due("what 2", x.says(0, 0, 0, 2), OUTSIDE);
        due("what MIN", x.says(0, 0, 0, MIN), OUTSIDE);
        due("what MAX", x.says(0, 0, 0, MAX), OUTSIDE);
        due("fern", x.says(0, 0, 1, 1), 2);
        due("out", x.says(0, 1, 1, 1), 0);
        due("sign -1", x.says(0, 0, -1, 0), OUTSIDE);
        due("sign 47", x.says(0, 0, 47, 0), 9);
        due("sign 48", x.says(0, 0, 48, 0), OUTSIDE);
        due("comer 1", x.says(1, 0, 0, 0), UNKNOWN);
        due("comer -1", x.says(-1, 0, 0, 0), UNKNOWN);
        due("house 2", x.says(0, 2, 0, 0), UNKNOWN);
        due("house -1", x.says(0, -1, 0, 0), UNKNOWN);
        due("the most of all", of("s0;c9 9 0;h9 9 9;").says(0, 0, 0, 0), 45);
        due("the least of all", of("s1;c0 0 0;h9 9 0;").says(0, 0, 4, 0), 0);
    }

    private static void signsCounted() {
        sentence("SIGNS by which he would be HAD UP or have FERN now: how many;");
        // By manners 0 signs mean 0 .. 7 in 2, 6, 6, 4, 6, 6, 2, 16 ways.
        int[] ways = {2, 6, 6, 4, 6, 6, 2, 16};
        for (int meaning = 0; meaning < 8; meaning++) {
            GloveSigns x = of("s0;c0 0 0;h3 40 " + "0,".repeat(meaning) + "1;");
            due("by meaning " + meaning, x.signs(0, 0, 0), ways[meaning]);
        }
        GloveSigns y = of("s0;c3 0 0;h3 40 0;h4 40 0;h40 3 0;h40 4 0;h4 40 1,1,1,1,1,1,1;");
        due("by all", y.signs(0, 0, 0), 48);
        due("by none", y.signs(0, 1, 0), 0);
        due("fern by all", y.signs(0, 2, 0), 48);
        due("fern by none", y.signs(0, 3, 0), 0);
        due("by all but cards", y.signs(0, 4, 0), 32);
        y.day(1);
        due("now, softened", y.signs(0, 1, 0), 48);
        y.visit(0, 1, 0);
        y.day(1);
        due("now, hardened", y.signs(0, 1, 0), 0);
        GloveSigns z = of("s2;c9 0 0;h9 40 0;");
        due("by those that are said", z.signs(0, 0, 0), 30);
        z.stuff(0, 9);
        due("not by mumbled ones that are heard as 8", z.signs(0, 0, 0), 30);
        z.day(1);
        due("by mumbled ones that are heard as 8", z.signs(0, 0, 0), 48);
    }

    private static void plainest() {
        sentence("the PLAINEST one of these (fewest of the five parts: LEFT, ON ITS BACK, CROSSED, FINGER, THUMB not in;"
            + " of like ones the least SIGN); NONE.");
        GloveSigns x = of("s0;c0 0 0;h0 40 0;h40 40 0;h3 40 0,0,0,1;h3 40 0,0,1,1;h3 40 0,0,0,0,0,0,0,1;h3 40 0,0,0,0,0,0,1;");
        due("by all: no part", x.signs(0, 0, 1), 0);
        due("by none", x.signs(0, 1, 1), NONE);
        due("meaning 3: one part, crossed", x.signs(0, 2, 1), 4);
        due("3 is less, 4 is plainer", x.signs(0, 3, 1), 4);
        due("a card is one part", x.signs(0, 4, 1), 32);
        due("four parts of 15, five of 31", x.signs(0, 5, 1), 15);
        GloveSigns y = of("s0;c0 0 0;h3 40 0,1;h3 40 0,0,1;h3 40 0,0,0,0,1;h3 40 0,0,0,0,0,1;h3 40 0,0,0,0,0,1,0,1;");
        due("of 1, 2, 8 the least", y.signs(0, 0, 1), 1);
        due("of 3, 9, 10 the least", y.signs(0, 1, 1), 3);
        due("of 5, 6, 12 the least", y.signs(0, 2, 1), 5);
        due("of 7, 13, 14 the least", y.signs(0, 3, 1), 7);
        due("32 is plainer than 7", y.signs(0, 4, 1), 32);
        GloveSigns z = of("s1;c0 0 0;h3 40 0,0,0,1;");
        due("of 11, 20 by manners 1: 20 has two parts", z.signs(0, 0, 1), 20);
        GloveSigns w = of("s1;c0 0 0;h11 40 0,0,0,7;h10 40 0,0,0,7;");
        due("heard as 11 though mumbled", w.signs(0, 0, 1), 4);
        GloveSigns v = of("s2;c0 0 0;h3 40 0,0,0,0,0,1;");
        due("of 13, 14, not 7", v.signs(0, 0, 1), 13);
    }

    private static void honest() {
        sentence("HONEST ones: SIGNS that are SAID and MEAN what he MEANS, by which he is let in: the least; NONE.");
        int[][] least = {{0, 1, 3, 4, 5, 7, 15, 32}, {0, 1, 3, 11, 21, 23, 31, 32}, {0, 1, 9, 4, 5, 13, NONE, 32}};
        for (int m = 0; m < 3; m++) {
            GloveSigns x = of("s" + m + ";c5 0 0;h5 40 0;h6 40 0;h40 5 0;");
            for (int meaning = 0; meaning < 8; meaning++) {
                x.mean(0, meaning);
                due("manners " + m + ", meaning " + meaning + ", let in", x.signs(0, 0, 2), least[m][meaning]);
                due("manners " + m + ", meaning " + meaning + ", out", x.signs(0, 1, 2), NONE);
                due("manners " + m + ", meaning " + meaning + ", fern", x.signs(0, 2, 2), least[m][meaning]);
            }
        }
        GloveSigns y = of("s0;c0 0 1;h3 40 9,0,9;");
        due("let in by others alone", y.signs(0, 0, 2), NONE);
        due("by how many", y.signs(0, 0, 0), 8);
        GloveSigns z = of("s2;c9 9 6;h0 40 0,0,0,0,0,0,9;");
        due("let in by mumbled ones", z.says(0, 0, 15, 1), 1);
        due("none is said", z.signs(0, 0, 2), NONE);
    }

    private static void signsBounds() {
        sentence("SIGNS: what = 0 how many, 1 the PLAINEST, 2 the HONEST one; NONE. UNKNOWN, OUTSIDE.");
        GloveSigns x = of("s0;c5 0 0;h5 40 0;");
        due("what -1", x.signs(0, 0, -1), OUTSIDE);
        due("what 0", x.signs(0, 0, 0), 48);
        due("what 1", x.signs(0, 0, 1), 0);
        due("what 2", x.signs(0, 0, 2), 0);
        due("what 3", x.signs(0, 0, 3), OUTSIDE);
        due("what MIN", x.signs(0, 0, MIN), OUTSIDE);
        due("what MAX", x.signs(0, 0, MAX), OUTSIDE);
        due("comer 1", x.signs(1, 0, 0), UNKNOWN);
        due("comer -1", x.signs(-1, 0, 0), UNKNOWN);
        due("house 1", x.signs(0, 1, 0), UNKNOWN);
        due("house -1", x.signs(0, -1, 0), UNKNOWN);
    }

    private static void gains() {
        sentence("GAINS: the most that a HOUSE can HEAR of a COMER by any SIGN, less the most that it could if he did not STUFF.");
        GloveSigns x = of("s0;c4 0 0;h40 40 0,9;h0 40 0;");
        for (int k = 0; k <= 9; k++) {
            x.stuff(0, k);
            due("by " + k + ", out", x.gains(0, 0), k);
            due("by " + k + ", let in", x.gains(0, 1), k);
        }
        visits(x, 2, 0, 1, 0);
        due("twice let in", x.gains(0, 1), 9);
        x.visit(0, 1, 0);
        due("a sham there", x.gains(0, 1), 0);
        due("none elsewhere", x.gains(0, 0), 9);
        x.pardon(0, 1);
        due("pardoned", x.gains(0, 1), 9);
        GloveSigns y = of("s2;c0 9 0;h0 40 0,0,0,0,0,0,9;h0 40 0,0,0,0,0,0,3;h0 40 0,0,0,0,0,0,4;");
        due("most by mumbled signs: 26 less 17", y.gains(0, 0), 9);
        due("most by signs that are said", y.gains(0, 1), 9);
        due("12 less 10 by mumbled signs: 11 less 2", y.gains(0, 2), 9);
        sentence("GAINS. UNKNOWN.");
        due("comer 1", x.gains(1, 0), UNKNOWN);
        due("comer -1", x.gains(-1, 0), UNKNOWN);
        due("house 2", x.gains(0, 2), UNKNOWN);
        due("house -1", x.gains(0, -1), UNKNOWN);
        due("without a season", new GloveSigns().gains(0, 0), UNKNOWN);
    }

    private static void clear() {
        sentence("CLEAR: how many SIGNS that are SAID MEAN a MEANING (0 .. 7); the least of these; NONE.");
        int[][] counts = {{2, 6, 6, 4, 6, 6, 2, 16}, {2, 6, 6, 3, 3, 3, 1, 8}, {2, 6, 4, 2, 6, 4, 0, 6}};
        int[][] least = {{0, 1, 3, 4, 5, 7, 15, 32}, {0, 1, 3, 11, 21, 23, 31, 32}, {0, 1, 9, 4, 5, 13, NONE, 32}};
        for (int m = 0; m < 3; m++) {
            GloveSigns x = of("s" + m + ";");
            for (int meaning = 0; meaning < 8; meaning++) {
                due("manners " + m + ", how many of " + meaning, x.clear(meaning, 0), counts[m][meaning]);
                due("manners " + m + ", the least of " + meaning, x.clear(meaning, 1), least[m][meaning]);
            }
            due("meaning -1", x.clear(-1, 0), OUTSIDE);
            due("meaning 8", x.clear(8, 0), OUTSIDE);
        }
    }

    private static void clearBounds() {
        sentence("CLEAR: what = 0 how many, 1 the least; NONE. OUTSIDE, NOT: no SEASON.");
        GloveSigns x = of("s0;");
        due("what -1", x.clear(7, -1), OUTSIDE);
        due("what 0", x.clear(7, 0), 16);
        due("what 1", x.clear(7, 1), 32);
        due("what 2", x.clear(7, 2), OUTSIDE);
        due("what MIN", x.clear(0, MIN), OUTSIDE);
        due("what MAX", x.clear(0, MAX), OUTSIDE);
        due("meaning MIN", x.clear(MIN, 0), OUTSIDE);
        due("meaning MAX", x.clear(MAX, 0), OUTSIDE);
        x.season();
        due("no season", x.clear(7, 0), NOT);
        due("no season, the least", x.clear(0, 1), NOT);
        due("no season, meaning 8", x.clear(8, 0), OUTSIDE);
        due("no season, what 2", x.clear(0, 2), OUTSIDE);
    }

    private static void letIn() {
        sentence("LET IN: HOUSES (a SET) that would let a COMER in by a SIGN.");
        GloveSigns x = of("s0;c5 0 0;h5 40 0;h6 40 0;h40 5 0;h40 6 0;h8 40 0,1;h8 40 0,0,1;");
        due("by 0", x.letIn(0, 0), 5);
        due("by 1", x.letIn(0, 1), 21);
        due("by 3", x.letIn(0, 3), 37);
        due("by 47", x.letIn(0, 47), 5);
        due("none", of("s0;c0 0 0;h1 1 0;").letIn(0, 0), 0);
        due("no houses", of("s0;c0 0 0;").letIn(0, 0), 0);
        due("all six", of("s0;c0 0 0;" + "h0 0 0;".repeat(6)).letIn(0, 47), 63);
        sentence("LET IN. UNKNOWN, OUTSIDE.");
        due("sign -1", x.letIn(0, -1), OUTSIDE);
        due("sign 48", x.letIn(0, 48), OUTSIDE);
        due("comer 1", x.letIn(1, 0), UNKNOWN);
        due("comer -1", x.letIn(-1, 0), UNKNOWN);
        due("no houses, sign 48", of("s0;c0 0 0;").letIn(0, 48), OUTSIDE);
    }

    private static void round() {
        sentence("ROUND: the most HOUSES that let a COMER in on one DAY, if he goes to each once, with one and the same SIGN:"
            + " how many; that SIGN (of like ones the least).");
        GloveSigns x = of("s0;c5 0 0;h8 40 0,1;h8 40 0,0,1;h8 40 0,0,1;h8 40 0,0,0,0,0,0,0,1;h9 40 9;h9 40 9;");
        due("how many", x.round(0, 0), 2);
        due("of 0, 3 the least", x.round(0, 1), 0);
        GloveSigns y = of("s0;c5 0 0;h8 40 0,1;h8 40 0,0,1;h8 40 0,0,1;h8 40 0,0,0,0,0,0,0,1;");
        due("how many", y.round(0, 0), 2);
        due("of 3, 9, 10 the least", y.round(0, 1), 3);
        GloveSigns z = of("s0;c0 0 0;h1 1 0;h1 1 0;");
        due("none lets him in", z.round(0, 0), 0);
        due("of all the least", z.round(0, 1), 0);
        z.stuff(0, 1);
        due("all let him in", z.round(0, 0), 2);
        due("of all the least", z.round(0, 1), 0);
        GloveSigns one = of("s0;c0 0 0;h1 1 0;h3 40 0,0,1;");
        due("one lets him in", one.round(0, 0), 1);
        due("of 3, 9, 10 the least", one.round(0, 1), 3);
        due("all six", of("s0;c0 0 0;" + "h3 40 0,0,0,0,0,0,0,1;".repeat(6)).round(0, 0), 6);
        due("all six by 32", of("s0;c0 0 0;" + "h3 40 0,0,0,0,0,0,0,1;".repeat(6)).round(0, 1), 32);
        due("no houses", of("s0;c9 0 0;").round(0, 0), 0);
        due("no houses, the sign", of("s0;c9 0 0;").round(0, 1), 0);
        sentence("ROUND: what = 0 how many, 1 the SIGN. UNKNOWN, OUTSIDE.");
        due("what -1", x.round(0, -1), OUTSIDE);
        due("what 2", x.round(0, 2), OUTSIDE);
        due("what MIN", x.round(0, MIN), OUTSIDE);
        due("what MAX", x.round(0, MAX), OUTSIDE);
        due("comer 1", x.round(1, 0), UNKNOWN);
        due("comer -1", x.round(-1, 0), UNKNOWN);
        due("without a season", new GloveSigns().round(0, 0), UNKNOWN);
    }

    private static void suits() {
        sentence("what it HEARS of him at most by a SIGN that is SAID and MEANS what he MEANS; NONE: there is no such SIGN.");
        for (int m = 0; m < 3; m++) {
            GloveSigns x = of("s" + m + ";c1 2 0;h40 40 1,2,3,4,5,6,7,8;");
            for (int meaning = 0; meaning < 8; meaning++) {
                x.mean(0, meaning);
                due("manners " + m + ", meaning " + meaning, x.suits(0, 0), m == 2 && meaning == 6 ? NONE : 6 + 3 * meaning);
            }
        }
        GloveSigns y = of("s0;c0 0 0;h40 40 0;h40 40 9;");
        due("0 is no NONE", y.suits(0, 0), 0);
        due("27", y.suits(0, 1), 27);
        y.stuff(0, 9);
        due("with stuffing", y.suits(0, 1), 36);
        GloveSigns z = of("s0;c0 9 0;h0 40 0;");
        visits(z, 3, 0, 0, 0);
        due("of a sham", z.suits(0, 0), 0);
        sentence("SUITS; NONE. UNKNOWN.");
        due("comer 1", y.suits(1, 0), UNKNOWN);
        due("comer -1", y.suits(-1, 0), UNKNOWN);
        due("house 2", y.suits(0, 2), UNKNOWN);
        due("house -1", y.suits(0, -1), UNKNOWN);
    }

    private static void comersAsk() {
        sentence("of HOUSES that did not refuse him that by which he SUITS most (of like ones the least);");
        due("of like ones", of("s0;c1 0 0;h0 0 5;h0 0 5;").comer(0, 4), 0);
        due("the second more", of("s0;c1 0 0;h0 0 5;h0 0 6;").comer(0, 4), 1);
        due("the second less", of("s0;c1 0 0;h0 0 5;h0 0 4;").comer(0, 4), 0);
        due("like ones behind", of("s0;c1 0 0;h0 0 5;h0 0 6;h0 0 6;").comer(0, 4), 1);
        GloveSigns x = of("s0;c2 0 0;c1 0 0;h0 0 5;h0 0 6;h0 0 4;");
        due("the first has his", x.comer(0, 4), 1);
        due("the second is refused there, and asks the next", x.comer(1, 4), 0);
        due("the third house has none", x.house(2, 2), NONE);
    }

    private static void housesKeep() {
        sentence("it keeps whom he SUITS it more (of like ones the lesser number);");
        GloveSigns like = of("s0;c1 0 0;c1 0 0;h0 0 0;");
        due("of like ones", like.house(0, 2), 0);
        due("the other", like.comer(1, 4), NONE);
        GloveSigns more = of("s0;c1 0 0;c2 0 0;h0 0 0;");
        due("the second more", more.house(0, 2), 1);
        due("the first", more.comer(0, 4), NONE);
        GloveSigns less = of("s0;c1 0 0;c0 0 0;h0 0 0;");
        due("the second less", less.house(0, 2), 0);
        // The first is put off by the second at house 0 and asks house 1; the third is refused there, and at house 0.
        GloveSigns chain = of("s0;c5 0 0;c6 0 0;c5 0 1;h0 0 3,1;h0 0 2,2;h0 0 0;");
        due("the second", chain.comer(1, 4), 0);
        due("the first", chain.comer(0, 4), 1);
        due("the third", chain.comer(2, 4), 2);
        due("house 0", chain.house(0, 2), 1);
        due("house 1", chain.house(1, 2), 0);
        due("house 2", chain.house(2, 2), 2);
        // A lesser number that asks later, with a like suit, puts off whom it kept: 0 is put off at 0 by 2.
        GloveSigns later = of("s0;c5 0 0;c5 0 1;c6 0 0;h0 0 3;h0 0 2,2;");
        due("the third", later.comer(2, 4), 0);
        due("the first", later.comer(0, 4), 1);
        due("the second", later.comer(1, 4), NONE);
    }

    private static void unmatched() {
        sentence("NONE: all refused him, or he SUITS none.");
        GloveSigns x = of("s2;c9 9 6;c0 0 0;h0 0 0,0,0,0,0,0,9;h0 0 0;");
        due("suits none", x.comer(0, 4), NONE);
        due("suits by 0", x.comer(1, 4), 0);
        due("the other house", x.house(1, 2), NONE);
        x.mean(0, 5);
        due("suits now", x.comer(0, 4), 0);
        due("is put off", x.comer(1, 4), 1);
        GloveSigns y = of("s0;c3 0 0;c2 0 0;c1 0 0;h0 0 0;h0 0 0;");
        due("first", y.comer(0, 4), 0);
        due("second", y.comer(1, 4), 1);
        due("all refused", y.comer(2, 4), NONE);
        due("no houses", of("s0;c3 0 0;").comer(0, 4), NONE);
        due("no comers", of("s0;h3 0 0;").house(0, 2), NONE);
    }

    private static void matchedAll() {
        sentence("MATCHED: COMERS choose HOUSES, each HOUSE one COMER");
        GloveSigns x = of("s0;" + "c1 0 0;".repeat(6) + "h0 0 0;".repeat(6));
        for (int i = 0; i < 6; i++) {
            due("comer " + i, x.comer(i, 4), i);
            due("house " + i, x.house(i, 2), i);
        }
        GloveSigns y = of("s0;c1 0 0;c2 0 0;c3 0 0;c4 0 0;c5 0 0;c6 0 0;h0 0 1;h0 0 2;h0 0 3;h0 0 4;h0 0 5;h0 0 6;");
        for (int i = 0; i < 6; i++) {
            due("comer " + i, y.comer(i, 4), i);
        }
        GloveSigns z = of("s0;c1 0 0;c2 0 0;c3 0 0;c4 0 0;c5 0 0;c6 0 0;h0 0 6;h0 0 5;h0 0 4;h0 0 3;h0 0 2;h0 0 1;");
        for (int i = 0; i < 6; i++) {
            due("comer " + i, z.comer(i, 4), 5 - i);
            due("house " + i, z.house(i, 2), 5 - i);
        }
        GloveSigns one = of("s0;" + "c1 0 0;".repeat(5) + "c2 0 0;h0 0 0;");
        for (int i = 0; i < 6; i++) {
            due("comer " + i, one.comer(i, 4), i == 5 ? 0 : NONE);
        }
        GloveSigns many = of("s0;c1 0 0;" + "h0 0 0;".repeat(5) + "h0 0 1;");
        for (int i = 0; i < 6; i++) {
            due("house " + i, many.house(i, 2), i == 5 ? 0 : NONE);
        }
        GloveSigns sham = of("s0;c0 9 0;c5 0 0;h0 40 1;h0 40 0;");
        due("by stuffing", sham.house(0, 2), 0);
        visits(sham, 3, 0, 0, 0);
        // He suits house 0 by 3 now, and house 1 by 9.
        due("a known sham asks elsewhere", sham.comer(0, 4), 1);
        due("the other has the house", sham.house(0, 2), 1);
    }

    private static void dryBounds() {
        sentence("DRY: odds of n DAYS (0 .. 60) without rain, each by q of a hundred (0 .. 100):");
        GloveSigns x = new GloveSigns();
        for (int q : new int[] {0, 1, 99, 100}) {
            due("dry(-1, " + q + ")", x.dry(-1, q), OUTSIDE);
            due("dry(0, " + q + ")", x.dry(0, q), 1000000000);
            due("dry(1, " + q + ")", x.dry(1, q), q * 10000000);
            due("dry(61, " + q + ")", x.dry(61, q), OUTSIDE);
            due("dry(MIN, " + q + ")", x.dry(MIN, q), OUTSIDE);
            due("dry(MAX, " + q + ")", x.dry(MAX, q), OUTSIDE);
        }
        due("dry(60, 0)", x.dry(60, 0), 0);
        due("dry(60, 1)", x.dry(60, 1), 0);
        due("dry(59, 99)", x.dry(59, 99), 552683455);
        due("dry(60, 99)", x.dry(60, 99), 547156620);
        due("dry(60, 100)", x.dry(60, 100), 1000000000);
        for (int n : new int[] {0, 1, 59, 60}) {
            due("dry(" + n + ", -1)", x.dry(n, -1), OUTSIDE);
            due("dry(" + n + ", 101)", x.dry(n, 101), OUTSIDE);
            due("dry(" + n + ", MIN)", x.dry(n, MIN), OUTSIDE);
            due("dry(" + n + ", MAX)", x.dry(n, MAX), OUTSIDE);
        }
        sentence("DRY. OUTSIDE.");
        due("in a season", of("s0;c1 1 1;").dry(1, 50), 500000000);
        due("in a season, 61", of("s0;c1 1 1;").dry(61, 50), OUTSIDE);
    }

    private static void dryCut() {
        sentence("a BILLION times q / 100 each (cut).");
        GloveSigns x = new GloveSigns();
        due("4 by 1", x.dry(4, 1), 10);
        due("5 by 1", x.dry(5, 1), 0);
        due("29 by 50", x.dry(29, 50), 1);
        due("30 by 50", x.dry(30, 50), 0);
        due("5 by 3: 24.3", x.dry(5, 3), 24);
        due("6 by 3: 0.72", x.dry(6, 3), 0);
        due("60 by 98: cut each, 297553142 if cut at the end", x.dry(60, 98), 297553126);
    }
}
