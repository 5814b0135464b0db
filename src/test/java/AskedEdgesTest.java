/** The edges of what can be asked of a season, promises 5 to 11, and of signs: each sentence by its case and its neighbours. */
public final class AskedEdgesTest extends Edges {
    private static final String SIX_COMERS = "c0 0 0;c1 1 1;c2 2 2;c3 3 3;c4 4 4;c9 9 7;";
    private static final String SIX_HOUSES = "h0 40 0;h1 39 1;h2 38 2;h3 37 3;h4 36 4;h40 0 9;";

    public static void main(String[] args) {
        toldBounds();
        toldWithoutSeason();
        lettersTold();
        openToday();
        callsOfAll();
        welcome();
        coldest();
        saidCount();
        countsTold();
        numbered();
        comerBounds();
        houseBounds();
        prizeBounds();
        callsBounds();
        signBounds();
        signNotNow();
        thumbs();
        grammar();
        meanings();
        loggedNone();
        loggedWhat();
        end();
    }

    private static void toldBounds() {
        sentence("12 entries of THE BOOK, 13 how many can be undone. OUTSIDE.");
        GloveSigns x = of("s1;c1 1 1;h1 1 1;");
        due("told(-1)", x.told(-1), OUTSIDE);
        due("told(0)", x.told(0), 1);
        due("told(12)", x.told(12), 0);
        x.day(1);
        due("told(13)", x.told(13), 1);
        due("told(14)", x.told(14), OUTSIDE);
        due("told(MIN)", x.told(MIN), OUTSIDE);
        due("told(MAX)", x.told(MAX), OUTSIDE);
        due("told(-1) without a season", new GloveSigns().told(-1), OUTSIDE);
        due("told(14) without a season", new GloveSigns().told(14), OUTSIDE);
    }

    private static void toldWithoutSeason() {
        sentence("0 MANNERS (NONE without a SEASON)");
        GloveSigns x = new GloveSigns();
        due("without", x.told(0), NONE);
        feedAll(x, "s0;");
        due("not yet", x.told(0), NONE);
        x.season();
        due("with", x.told(0), 0);
        x.season();
        due("without again", x.told(0), NONE);
        sentence("9 SIGNS that are SAID (how many; 0 without a SEASON)");
        due("without", x.told(9), 0);
        feedAll(x, "s0;");
        x.season();
        due("with", x.told(9), 48);
        x.season();
        due("without again", x.told(9), 0);
    }

    private static void lettersTold() {
        sentence("3 letters of THE TEXT,");
        GloveSigns x = new GloveSigns();
        due("none", x.told(3), 0);
        for (int i = 1; i <= 240; i++) {
            x.feed(' ');
            if (i == 1 || i >= 239) {
                due("some", x.told(3), i);
            }
        }
        x.feed(' ');
        due("refused", x.told(3), 240);
        x.season();
        due("read", x.told(3), 0);
    }

    private static void openToday() {
        sentence("5 HOUSES that let somebody in today (a SET)");
        GloveSigns x = of("s0;c9 0 0;h0 40 0;h9 40 0;h10 40 0;h40 9 0;h40 10 0;h0 0 0;");
        int[] open = {1, 3, 3, 11, 11, 43};
        due("nobody yet", x.told(5), 0);
        for (int h = 0; h < 6; h++) {
            x.visit(0, h, 0);
            due("behind house " + h, x.told(5), open[h]);
        }
        x.visit(0, 0, 0);
        due("once more", x.told(5), 43);
        x.mean(0, 1);
        x.stuff(0, 1);
        due("the same day", x.told(5), 43);
        x.day(1);
        due("the next day", x.told(5), 0);
        x.undo(1);
        due("the day undone", x.told(5), 43);
        x.drift(1);
        due("behind a day by draws", x.told(5), 0);
        GloveSigns y = of("s0;c9 0 0;" + "h0 40 0;".repeat(6));
        for (int h = 0; h < 6; h++) {
            y.visit(0, h, 0);
        }
        due("all", y.told(5), 63);
        GloveSigns z = of("s0;c9 9 0;h0 40 0;");
        visits(z, 3, 0, 0, 0);
        z.pardon(0, 0);
        due("a pardon takes no house off", z.told(5), 1);
    }

    private static void callsOfAll() {
        sentence("6 CALLS of all,");
        GloveSigns x = of("s0;c9 0 0;c0 0 0;h0 40 0;h9 40 0;");
        due("none", x.told(6), 0);
        x.visit(1, 1, 0);
        due("none who was out", x.told(6), 0);
        x.visit(1, 0, 0);
        due("one", x.told(6), 1);
        x.visit(0, 1, 0);
        due("two", x.told(6), 2);
        x.day(1);
        due("two, the next day", x.told(6), 2);
    }

    private static void welcome() {
        sentence("WELCOME: the HOUSE with most CALLS of all; of like ones the least; NONE: nobody was let in.");
        GloveSigns x = of("s0;c9 0 0;c0 9 0;" + "h0 40 0;".repeat(5) + "h40 40 0;");
        due("nobody came", x.told(7), NONE);
        x.visit(0, 5, 0);
        due("nobody was let in", x.told(7), NONE);
        x.visit(0, 4, 0);
        due("one", x.told(7), 4);
        x.visit(1, 2, 0);
        due("of like ones the least", x.told(7), 2);
        x.visit(0, 4, 0);
        due("one more", x.told(7), 4);
        x.visit(1, 2, 0);
        due("like again", x.told(7), 2);
        x.visit(0, 2, 0);
        x.visit(0, 4, 0);
        x.visit(0, 0, 0);
        due("of all comers: 1, 3, 3", x.told(7), 2);
        x.undo(6);
        due("undone to one", x.told(7), 4);
        x.undo(1);
        due("undone to nobody let in", x.told(7), NONE);
        GloveSigns y = of("s0;c0 9 0;h0 40 0;h0 40 0;");
        visits(y, 3, 0, 0, 0);
        y.visit(0, 1, 0);
        due("three to one", y.told(7), 0);
        y.pardon(0, 0);
        due("none to one", y.told(7), 1);
        due("without a season", new GloveSigns().told(7), NONE);
    }

    private static void coldest() {
        sentence("COLDEST: the HOUSE with the greatest L; of like ones the least; NONE.");
        due("without a season", new GloveSigns().told(8), NONE);
        due("without houses", of("s0;c1 1 1;").told(8), NONE);
        due("one with 0", of("s0;h0 0 0;").told(8), 0);
        due("all like", of("s0;" + "h7 0 0;".repeat(6)).told(8), 0);
        due("the last", of("s0;" + "h7 0 0;".repeat(5) + "h8 0 0;").told(8), 5);
        due("like ones behind", of("s0;h7 0 0;h8 0 0;h8 0 0;h6 0 0;").told(8), 1);
        GloveSigns x = of("s0;c9 0 0;h5 40 0;h6 40 0;");
        due("by 6", x.told(8), 1);
        x.visit(0, 0, 0);
        x.day(1);
        due("6 to 5", x.told(8), 0);
        x.visit(0, 1, 0);
        x.day(1);
        due("5 to 6", x.told(8), 1);
        x.day(1);
        due("4 to 5", x.told(8), 1);
        x.day(5);
        due("0 to 0", x.told(8), 0);
    }

    private static void saidCount() {
        sentence("9 SIGNS that are SAID");
        int[] counts = {48, 32, 30};
        for (int m = 0; m < 3; m++) {
            due("manners " + m, of("s" + m + ";").told(9), counts[m]);
        }
    }

    private static void countsTold() {
        sentence("10 how many THE LOG has, 11 what is MEANT, 12 entries of THE BOOK, 13 how many can be undone.");
        GloveSigns x = of("s0;c9 0 0;h0 40 0;");
        for (int i = 1; i <= 22; i++) {
            x.visit(0, 0, 0);
            x.write(0, 0);
            x.meant(0, 0);
            due("log " + i, x.told(10), Math.min(i, 20));
            due("meant " + i, x.told(11), Math.min(i, 6));
            due("book " + i, x.told(12), Math.min(i, 20));
            due("undone " + i, x.told(13), i);
        }
        for (int i = 23; i <= 32; i++) {
            x.mean(0, 0);
            due("undone " + i, x.told(13), Math.min(i, 30));
        }
    }

    private static void numbered() {
        sentence("What has a number has it from 0 on, as it comes.");
        GloveSigns x = of("s0;c1 2 3;h4 5 6;c7 8 0;h10 11 9;");
        due("the first comer", x.comer(0, 0), 1);
        due("the second comer", x.comer(1, 0), 7);
        due("a third comer", x.comer(2, 0), UNKNOWN);
        due("comer -1", x.comer(-1, 0), UNKNOWN);
        due("the first house", x.house(0, 0), 4);
        due("the second house", x.house(1, 0), 10);
        due("a third house", x.house(2, 0), UNKNOWN);
        due("house -1", x.house(-1, 0), UNKNOWN);
        sentence("UNKNOWN (a COMER, HOUSE, IMAGE that there is not;");
        for (int none : new int[] {MIN, -1, 2, 3, 6, 7, 32, MAX}) {
            due("comer", x.comer(none, 0), UNKNOWN);
            due("house", x.house(none, 0), UNKNOWN);
            due("prize", x.prize(none, 0), UNKNOWN);
            due("calls, comer", x.calls(none, 0), UNKNOWN);
            due("calls, house", x.calls(0, none), UNKNOWN);
            due("visit, comer", x.visit(none, 0, 0), UNKNOWN);
            due("visit, house", x.visit(0, none, 0), UNKNOWN);
            due("mean", x.mean(none, 0), UNKNOWN);
            due("stuff", x.stuff(none, 0), UNKNOWN);
            due("pardon, comer", x.pardon(none, 0), UNKNOWN);
            due("pardon, house", x.pardon(0, none), UNKNOWN);
            due("says, comer", x.says(none, 0, 0, 0), UNKNOWN);
            due("says, house", x.says(0, none, 0, 0), UNKNOWN);
            due("signs, comer", x.signs(none, 0, 0), UNKNOWN);
            due("signs, house", x.signs(0, none, 0), UNKNOWN);
            due("gains, comer", x.gains(none, 0), UNKNOWN);
            due("gains, house", x.gains(0, none), UNKNOWN);
            due("letIn", x.letIn(none, 0), UNKNOWN);
            due("round", x.round(none, 0), UNKNOWN);
            due("suits, comer", x.suits(none, 0), UNKNOWN);
            due("suits, house", x.suits(0, none), UNKNOWN);
            due("write", x.write(none, 0), UNKNOWN);
            due("keep", x.keep(none), UNKNOWN);
            due("goBack", x.goBack(none), UNKNOWN);
        }
        GloveSigns y = of("s0;c1 1 1;h1 1 1;h1 1 1;");
        due("comer 1 of 1, house 1 of 2", y.calls(1, 1), UNKNOWN);
        due("comer 0 of 1, house 1 of 2", y.calls(0, 1), 0);
        GloveSigns z = of("s0;c1 1 1;c1 1 1;h1 1 1;");
        due("comer 1 of 2, house 1 of 1", z.calls(1, 1), UNKNOWN);
        due("comer 1 of 2, house 0 of 1", z.calls(1, 0), 0);
    }

    private static void comerBounds() {
        sentence("3 HOUSES where he is a KNOWN SHAM (a SET), 4 the HOUSE MATCHED (NONE). UNKNOWN, OUTSIDE.");
        GloveSigns x = of("s0;" + SIX_COMERS + SIX_HOUSES);
        int[] firsts = {0, 1, 2, 3, 4, 9};
        int[] means = {0, 1, 2, 3, 4, 7};
        for (int c = 0; c < 6; c++) {
            due("worth of " + c, x.comer(c, 0), firsts[c]);
            due("stuffs, " + c, x.comer(c, 1), firsts[c]);
            due("means, " + c, x.comer(c, 2), means[c]);
            due("sham, " + c, x.comer(c, 3), 0);
            due("what -1 of " + c, x.comer(c, -1), OUTSIDE);
            due("what 5 of " + c, x.comer(c, 5), OUTSIDE);
        }
        due("comer 6", x.comer(6, 0), UNKNOWN);
        due("comer -1", x.comer(-1, 0), UNKNOWN);
        due("what MIN", x.comer(0, MIN), OUTSIDE);
        due("what MAX", x.comer(0, MAX), OUTSIDE);
        due("without a season", new GloveSigns().comer(0, 0), UNKNOWN);
        GloveSigns y = of("s0;c9 9 0;c0 9 0;" + "h0 40 0;".repeat(6));
        for (int h = 0; h < 6; h++) {
            visits(y, 3, 1, h, 0);
            due("a sham at houses to " + h, y.comer(1, 3), (2 << h) - 1);
        }
        due("the other is none", y.comer(0, 3), 0);
        y.pardon(1, 0);
        due("but at house 0", y.comer(1, 3), 62);
        y.pardon(1, 5);
        due("but at houses 0, 5", y.comer(1, 3), 30);
        due("matched", y.comer(0, 4), 0);
        due("matched none: no house", of("s0;c1 1 1;").comer(0, 4), NONE);
    }

    private static void houseBounds() {
        sentence("what = 0 L, 1 F, 2 the COMER MATCHED (NONE), 3 CALLS of all there. UNKNOWN, OUTSIDE.");
        GloveSigns x = of("s0;" + SIX_HOUSES);
        int[] hard = {0, 1, 2, 3, 4, 40};
        int[] fern = {40, 39, 38, 37, 36, 0};
        for (int h = 0; h < 6; h++) {
            due("L of " + h, x.house(h, 0), hard[h]);
            due("F of " + h, x.house(h, 1), fern[h]);
            due("matched, " + h, x.house(h, 2), NONE);
            due("calls of " + h, x.house(h, 3), 0);
            due("what -1 of " + h, x.house(h, -1), OUTSIDE);
            due("what 4 of " + h, x.house(h, 4), OUTSIDE);
        }
        due("house 6", x.house(6, 0), UNKNOWN);
        due("house -1", x.house(-1, 0), UNKNOWN);
        due("what MIN", x.house(0, MIN), OUTSIDE);
        due("what MAX", x.house(0, MAX), OUTSIDE);
        due("without a season", new GloveSigns().house(0, 0), UNKNOWN);
        GloveSigns y = of("s0;c9 0 0;c0 0 0;h0 40 0;h9 40 0;");
        y.visit(0, 0, 0);
        y.visit(1, 0, 0);
        y.visit(0, 1, 0);
        y.visit(1, 1, 0);
        due("calls at 0", y.house(0, 3), 2);
        due("calls at 1", y.house(1, 3), 1);
    }

    private static void prizeBounds() {
        sentence("The PRIZE of a MEANING (0 .. 7) at a HOUSE. UNKNOWN, OUTSIDE.");
        GloveSigns x = of("s0;h0 0 9,8,7,6,5,4,3,2;h0 0 1;");
        for (int meaning = 0; meaning < 8; meaning++) {
            due("at 0, of " + meaning, x.prize(0, meaning), 9 - meaning);
            due("at 1, of " + meaning, x.prize(1, meaning), meaning == 0 ? 1 : 0);
        }
        for (int h = 0; h < 2; h++) {
            due("of -1", x.prize(h, -1), OUTSIDE);
            due("of 8", x.prize(h, 8), OUTSIDE);
            due("of MIN", x.prize(h, MIN), OUTSIDE);
            due("of MAX", x.prize(h, MAX), OUTSIDE);
        }
        due("at 2", x.prize(2, 0), UNKNOWN);
        due("at -1", x.prize(-1, 0), UNKNOWN);
    }

    private static void callsBounds() {
        sentence("CALLS of a COMER at a HOUSE. UNKNOWN.");
        GloveSigns x = of("s0;" + "c9 0 0;".repeat(6) + "h0 40 0;".repeat(6));
        x.visit(0, 5, 0);
        x.visit(5, 0, 0);
        x.visit(5, 5, 0);
        x.visit(5, 5, 0);
        for (int c = -1; c <= 6; c++) {
            for (int h = -1; h <= 6; h++) {
                boolean both = c >= 0 && c < 6 && h >= 0 && h < 6;
                int calls = c == 5 && h == 5 ? 2 : c == 0 && h == 5 || c == 5 && h == 0 ? 1 : 0;
                due("calls(" + c + ", " + h + ")", x.calls(c, h), both ? calls : UNKNOWN);
            }
        }
        due("without a season", new GloveSigns().calls(0, 0), UNKNOWN);
    }

    private static void signBounds() {
        sentence("A SIGN is a number 0 .. 47, of five parts");
        GloveSigns x = of("s0;c9 0 0;h0 40 0;");
        for (int g : new int[] {0, 1, 46, 47}) {
            due("said " + g, x.sign(g, 1), 1);
            due("laid " + g, x.visit(0, 0, g), 1);
            due("hears " + g, x.says(0, 0, g, 0), 9);
            due("let in by " + g, x.letIn(0, g), 1);
        }
        for (int g : new int[] {MIN, -48, -1, 48, 49, 64, MAX}) {
            due("no sign " + g, x.sign(g, 1), OUTSIDE);
            due("not laid " + g, x.visit(0, 0, g), OUTSIDE);
            due("hears nothing " + g, x.says(0, 0, g, 0), OUTSIDE);
            due("not let in by " + g, x.letIn(0, g), OUTSIDE);
        }
        sentence("Of a SIGN (0 .. 47): what = 0 what it MEANS, 1 1 it is SAID, 0 MUMBLED.");
        for (int what : new int[] {MIN, -1, 2, 3, MAX}) {
            due("what " + what, x.sign(0, what), OUTSIDE);
            due("what " + what, x.sign(47, what), OUTSIDE);
        }
        due("means 0", x.sign(0, 0), 0);
        due("means 7", x.sign(47, 0), 7);
        due("mumbled", of("s2;").sign(47, 1), 0);
    }

    private static void signNotNow() {
        sentence("OUTSIDE, NOT: no SEASON.");
        GloveSigns x = new GloveSigns();
        due("sign", x.sign(0, 0), NOT);
        due("sign 47", x.sign(47, 1), NOT);
        due("sign 48", x.sign(48, 0), OUTSIDE);
        due("sign -1", x.sign(-1, 0), OUTSIDE);
        due("what 2", x.sign(0, 2), OUTSIDE);
        feedAll(x, "s1;");
        x.season();
        due("in a season", x.sign(47, 0), 7);
        x.season();
        due("in none again", x.sign(47, 0), NOT);
    }

    private static void thumbs() {
        sentence("by the whole of it / 16 its THUMB: 0 in, 1 out, 2 with a card.");
        GloveSigns x = of("s1;");
        // Crossed signs, by manners 1: said only with the thumb out.
        int[] crossed = {12, 15, 20, 31, 36, 47};
        int[] said = {0, 0, 1, 1, 0, 0};
        for (int i = 0; i < crossed.length; i++) {
            due("said " + crossed[i], x.sign(crossed[i], 1), said[i]);
        }
        due("31 is without a card", x.sign(31, 0), 6);
        due("32 is with a card", x.sign(32, 0), 7);
        due("15 and 16", x.sign(15, 0), 6);
        due("16 means 0", x.sign(16, 0), 0);
    }

    private static void grammar() {
        sentence("0 any SIGN is SAID;");
        GloveSigns any = of("s0;");
        for (int g = 0; g < 48; g++) {
            due("manners 0, " + g, any.sign(g, 1), 1);
        }
        sentence("1 none that is CROSSED and has no THUMB out (THUMB 0 or 2);");
        GloveSigns one = of("s1;");
        for (int g = 0; g < 48; g++) {
            boolean crossed = g / 4 % 2 == 1;
            due("manners 1, " + g, one.sign(g, 1), crossed && (g < 16 || g > 31) ? 0 : 1);
        }
        sentence("2 none that is LEFT and ON ITS BACK, and none with a FINGER and a card.");
        GloveSigns two = of("s2;");
        for (int g = 0; g < 48; g++) {
            boolean leftOnItsBack = g % 4 == 3;
            boolean fingerAndCard = g >= 40;
            due("manners 2, " + g, two.sign(g, 1), leftOnItsBack || fingerAndCard ? 0 : 1);
        }
    }

    private static void meanings() {
        sentence("A SIGN MEANS: bit 0 of it and bit 1 of it together (0 .. 2), and 3, if it is CROSSED;"
            + " 1 more, if a FINGER is turned down (0 .. 6 thus); with a card 7, whatever else.");
        int[] means = {0, 1, 1, 2, 3, 4, 4, 5, 1, 2, 2, 3, 4, 5, 5, 6};
        for (int m = 0; m < 3; m++) {
            GloveSigns x = of("s" + m + ";");
            for (int g = 0; g < 48; g++) {
                due("manners " + m + ", " + g, x.sign(g, 0), g < 32 ? means[g % 16] : 7);
            }
        }
    }

    private static void loggedNone() {
        sentence("Of THE LOG, 0 the latest: what = 0 DAY, 1 COMER, 2 HOUSE, 3 SIGN, 4 answer; NONE.");
        GloveSigns x = of("s0;c9 0 0;c0 0 0;h0 40 0;h9 0 0;");
        due("empty", x.logged(0, 0), NONE);
        due("without a season", new GloveSigns().logged(0, 4), NONE);
        x.day(2);
        x.visit(1, 0, 47);
        x.day(1);
        x.visit(0, 1, 5);
        int[][] rows = {{3, 0, 1, 5, 2}, {2, 1, 0, 47, 1}};
        for (int what = 0; what < 5; what++) {
            due("-1", x.logged(-1, what), NONE);
            due("the latest", x.logged(0, what), rows[0][what]);
            due("the one before", x.logged(1, what), rows[1][what]);
            due("none before", x.logged(2, what), NONE);
            due("MIN", x.logged(MIN, what), NONE);
            due("MAX", x.logged(MAX, what), NONE);
        }
        sentence("THE LOG keeps the latest 20: DAY, COMER, HOUSE, SIGN, answer.");
        for (int i = 2; i < 19; i++) {
            x.visit(0, 0, i);
        }
        due("19", x.told(10), 19);
        due("the oldest of 19", x.logged(18, 3), 47);
        due("older than 19", x.logged(19, 3), NONE);
        x.visit(0, 0, 19);
        due("20", x.told(10), 20);
        due("the oldest of 20", x.logged(19, 3), 47);
        due("older than 20", x.logged(20, 3), NONE);
        x.visit(0, 0, 20);
        due("20 of 21", x.told(10), 20);
        due("the oldest of 21", x.logged(19, 3), 5);
        due("older than these", x.logged(20, 3), NONE);
        due("the latest of 21", x.logged(0, 3), 20);
        x.visit(0, 0, 21);
        due("20 of 22", x.told(10), 20);
        for (int i = 0; i < 20; i++) {
            due("the latest but " + i, x.logged(i, 3), 21 - i);
        }
        x.undo(2);
        due("20 again", x.logged(19, 3), 47);
        x.visit(0, 0, 20);
        x.visit(0, 0, 21);
        for (int i = 22; i < 47; i++) {
            x.visit(0, 0, i);
        }
        due("all 20 are others", x.logged(19, 3), 27);
        x.undo(25);
        for (int i = 0; i < 20; i++) {
            due("all 20 again, the latest but " + i, x.logged(i, 3), 21 - i);
        }
    }

    private static void loggedWhat() {
        sentence("OUTSIDE (what).");
        GloveSigns x = of("s0;c9 0 0;h0 40 0;");
        x.visit(0, 0, 8);
        for (int what : new int[] {MIN, -1, 5, 6, MAX}) {
            due("what " + what, x.logged(0, what), OUTSIDE);
            due("what " + what + " of none", x.logged(1, what), OUTSIDE);
            due("what " + what + " of -1", x.logged(-1, what), OUTSIDE);
        }
        due("what 0", x.logged(0, 0), 0);
        due("what 4", x.logged(0, 4), 1);
        due("without a season", new GloveSigns().logged(0, 5), OUTSIDE);
    }
}
