/** What the document's terms tell beside the edges of single calls: sets, clauses, parts, what is heard, who asks first. */
public final class TermsEdgesTest extends Edges {
    private static final int[] MEANS = {0, 1, 1, 2, 3, 4, 4, 5, 1, 2, 2, 3, 4, 5, 5, 6};
    private static final String[] SAID = {
        "1111111111111111" + "1111111111111111" + "1111111111111111",
        "1111000011110000" + "1111111111111111" + "1111000011110000",
        "1110111011101110" + "1110111011101110" + "1110111000000000"};

    public static void main(String[] args) {
        divisionCuts();
        setsAreBits();
        billion();
        clauses();
        seasonCountsComers();
        toldInTurn();
        comersAndHousesInTurn();
        partsAreBits();
        notSaidIsMumbled();
        heard();
        heardOfAKnownSham();
        visitAnswersAsSaid();
        eachHouseHardens();
        comersChange();
        signsOfAComer();
        suits();
        leastAsksFirst();
        draws();
        end();
    }

    private static int meaningOf(int g) {
        return g < 32 ? MEANS[g % 16] : 7;
    }

    private static boolean isSaid(int manners, int g) {
        return SAID[manners].charAt(g) == '1';
    }

    private static void divisionCuts() {
        sentence("All numbers are whole; / cuts towards 0.");
        GloveSigns x = of("s0;");
        due("sign 15: thumb in", x.sign(15, 0), 6);
        due("sign 16: thumb out", x.sign(16, 0), 0);
        due("sign 31: thumb out", x.sign(31, 0), 6);
        due("sign 32: a card", x.sign(32, 0), 7);
        int[] odds = {1000000000, 330000000, 108900000, 35937000, 11859210, 3913539, 1291467, 426184};
        for (int n = 0; n < odds.length; n++) {
            due("dry " + n, x.dry(n, 33), odds[n]);
        }
    }

    private static void setsAreBits() {
        sentence("A SET is a whole number, bit k for k.");
        for (int k = 0; k < 6; k++) {
            GloveSigns x = of("s0;c9 9 0;" + "h40 40 0;".repeat(k) + "h0 40 0;" + "h40 40 0;".repeat(5 - k));
            due("let in at " + k, x.letIn(0, 0), 1 << k);
            due("nobody yet", x.told(5), 0);
            visits(x, 3, 0, k, 0);
            due("open today " + k, x.told(5), 1 << k);
            due("a sham at " + k, x.comer(0, 3), 1 << k);
        }
        GloveSigns all = of("s0;c9 9 0;" + "h0 40 0;".repeat(6));
        due("let in by all", all.letIn(0, 0), 63);
        all.visit(0, 1, 0);
        all.visit(0, 4, 0);
        due("1 and 4", all.told(5), 18);
        due("all meanings", all.couldBe(2), 255);
        all.meant(4, 2);
        due("meaning 7", all.couldBe(2), 128);
    }

    private static void billion() {
        sentence("BILLION is 1000000000.");
        GloveSigns x = new GloveSigns();
        due("no day", x.dry(0, 50), 1000000000);
        due("no day, no odds", x.dry(0, 0), 1000000000);
        due("sure of each", x.dry(60, 100), 1000000000);
        due("half", x.dry(1, 50), 500000000);
    }

    private static void clauses() {
        sentence("letter by letter: clauses: 's' M ';' (MANNERS M, 0 .. 2; first, once)");
        faults("s", 1, 1);
        faults("s0", 1, 2);
        faults("s0 0;", 1, 3);
        faults("s,0;", 1, 1);
        reads("s0;", 0);
        sentence("'c' W K N ';' (6 COMERS at most");
        faults("s0;c", 1, 4);
        faults("s0;c1", 1, 5);
        faults("s0;c1 2", 1, 7);
        faults("s0;c1 2 3", 1, 9);
        faults("s0;c1 2 3 4;", 1, 10);
        faults("s0;c1,2,3;", 1, 5);
        reads("s0;c1 2 3;", 1);
        sentence("'h' L F P {',' P} ';' (6 HOUSES at most");
        faults("s0;h", 1, 4);
        faults("s0;h1", 1, 5);
        faults("s0;h1 2", 1, 7);
        faults("s0;h1 2 3", 1, 9);
        faults("s0;h1 2 3,", 1, 10);
        faults("s0;h1 2 3,4", 1, 11);
        faults("s0;h1 2 3 4;", 1, 10);
        faults("s0;h1 2,3;", 1, 7);
        faults("s0;h1,2 3;", 1, 5);
        faults("s0;h1 2 3,,4;", 1, 10);
        reads("s0;h1 2 3;", 0);
        reads("s0;h1 2 3,4;", 0);
    }

    private static void seasonCountsComers() {
        sentence("THE SEED stays): how many COMERS;");
        for (int comers = 0; comers < 7; comers++) {
            reads("s2;" + "c0 0 0;".repeat(comers), comers);
            reads("s2;h0 0 0;" + "c0 0 0;".repeat(comers) + "h0 0 0;", comers);
        }
    }

    private static void toldInTurn() {
        sentence("0 MANNERS (NONE without a SEASON), 1 COMERS, 2 HOUSES, 3 letters of THE TEXT, 4 DAYS,"
            + " 5 HOUSES that let somebody in today (a SET), 6 CALLS of all, 7 WELCOME, 8 COLDEST,"
            + " 9 SIGNS that are SAID (how many; 0 without a SEASON), 10 how many THE LOG has,");
        GloveSigns x = of("s2;c9 0 0;c9 0 0;c0 0 0;h40 40 0;h12 40 1;h9 40 0;h39 40 0;");
        x.day(2);
        x.visit(0, 1, 0);
        x.visit(1, 1, 0);
        x.visit(0, 2, 0);
        x.visit(2, 2, 0);
        x.meant(0, 1);
        x.write(0, 40);
        x.write(1, 10);
        feedAll(x, "s0");
        int[] due = {2, 3, 4, 2, 2, 6, 3, 1, 0, 30, 4, 1, 2, 6};
        for (int what = 0; what < due.length; what++) {
            due("told(" + what + ")", x.told(what), due[what]);
        }
    }

    private static void comersAndHousesInTurn() {
        sentence("Of a COMER: what = 0 WORTH, 1 by how much he STUFFS, 2 what he MEANS,");
        GloveSigns x = of("s0;c1 2 3;h4 5 6;c7 8 5;h10 11 9,8;");
        // The first suits both by 3, the second both by 15: he has house 0, and the first house 1.
        int[][] comers = {{1, 2, 3, 0, 1}, {7, 8, 5, 0, 0}};
        for (int c = 0; c < 2; c++) {
            for (int what = 0; what < 5; what++) {
                due("comer(" + c + ", " + what + ")", x.comer(c, what), comers[c][what]);
            }
        }
        sentence("Of a HOUSE: what = 0 L, 1 F,");
        int[][] houses = {{4, 5, 1, 0}, {10, 11, 0, 0}};
        for (int h = 0; h < 2; h++) {
            for (int what = 0; what < 4; what++) {
                due("house(" + h + ", " + what + ")", x.house(h, what), houses[h][what]);
            }
        }
    }

    private static void partsAreBits() {
        sentence("of five parts: LEFT or right (bit 0: 1 LEFT), ON ITS BACK (bit 1), CROSSED (bit 2),"
            + " a FINGER turned down (bit 3), and by the whole of it / 16 its THUMB");
        GloveSigns x = of("s0;");
        for (int part = 0; part < 4; part++) {
            x.tear();
            x.meant(part, 1);
            due("part " + part + ": how many", x.couldBe(0), 24);
            due("part " + part + ": the least", x.couldBe(1), 1 << part);
            x.tear();
            x.meant(part, 0);
            due("not part " + part + ": how many", x.couldBe(0), 24);
            due("not part " + part + ": the least", x.couldBe(1), 0);
        }
        for (int thumb = 0; thumb < 3; thumb++) {
            x.tear();
            x.meant(4, thumb);
            due("thumb " + thumb + ": how many", x.couldBe(0), 16);
            due("thumb " + thumb + ": the least", x.couldBe(1), 16 * thumb);
        }
        for (int g = 0; g < 48; g++) {
            x.tear();
            for (int part = 0; part < 4; part++) {
                x.meant(part, g >> part & 1);
            }
            x.meant(4, g / 16);
            due("all parts of " + g, x.couldBe(0) == 1 ? x.couldBe(1) : NONE, g);
        }
    }

    private static void notSaidIsMumbled() {
        sentence("GRAMMAR by MANNERS: 0 any SIGN is SAID;");
        saidIsAsWritten(0);
        sentence("What is not SAID is MUMBLED.");
        saidIsAsWritten(1);
        saidIsAsWritten(2);
    }

    private static void saidIsAsWritten(int manners) {
        GloveSigns x = of("s" + manners + ";c9 9 0;h40 40 0;");
        for (int g = 0; g < 48; g++) {
            due("manners " + manners + ": sign " + g, x.sign(g, 1), isSaid(manners, g) ? 1 : 0);
            due("manners " + manners + ": heard by " + g, x.says(0, 0, g, 0), isSaid(manners, g) ? 18 : 8);
        }
    }

    private static void heard() {
        sentence("A HOUSE HEARS of a COMER by a SIGN: his WORTH, by how much he STUFFS (0, if he is a KNOWN SHAM there),"
            + " and the PRIZE of what the SIGN MEANS, 3 times; 10 less, if it is MUMBLED (0 at least). The answer: 0 OUT;");
        int[] prizes = {1, 0, 4, 9, 2, 7, 3, 5};
        for (int manners = 0; manners < 3; manners++) {
            GloveSigns x = of("s" + manners + ";c0 0 0;c9 0 0;c0 9 0;c4 3 0;h15 20 1,0,4,9,2,7,3,5;h20 15 1,0,4,9,2,7,3,5;");
            int[] sums = {0, 9, 9, 7};
            for (int c = 0; c < 4; c++) {
                for (int g = 0; g < 48; g++) {
                    int heard = sums[c] + 3 * prizes[meaningOf(g)] - (isSaid(manners, g) ? 0 : 10);
                    heard = heard < 0 ? 0 : heard;
                    String call = "manners " + manners + ", comer " + c + ", sign " + g;
                    due(call, x.says(c, 0, g, 0), heard);
                    due(call + ": L below F", x.says(c, 0, g, 1), heard >= 20 ? 2 : heard >= 15 ? 1 : 0);
                    due(call + ": F below L", x.says(c, 1, g, 1), heard >= 15 ? 2 : 0);
                }
            }
        }
    }

    private static void heardOfAKnownSham() {
        sentence("his WORTH, by how much he STUFFS (0, if he is a KNOWN SHAM there), and the PRIZE");
        GloveSigns x = of("s0;c2 6 0;c3 5 0;h0 40 1;h0 40 2;");
        visits(x, 3, 0, 0, 0);
        due("there", x.says(0, 0, 0, 0), 5);
        due("elsewhere", x.says(0, 1, 0, 0), 14);
        due("another there", x.says(1, 0, 0, 0), 11);
        due("he stuffs as he did", x.comer(0, 1), 6);
        x.stuff(0, 9);
        due("however he stuffs", x.says(0, 0, 0, 0), 5);
        due("elsewhere he is heard so", x.says(0, 1, 0, 0), 17);
        x.stuff(0, 0);
        due("if he stuffs no more, he is still one", x.comer(0, 3), 1);
        x.pardon(0, 0);
        x.stuff(0, 4);
        due("pardoned", x.says(0, 0, 0, 0), 9);
    }

    private static void visitAnswersAsSaid() {
        sentence("SAYS: what a HOUSE HEARS; the answer.");
        GloveSigns x = of("s1;c5 2 3;c3 6 1;h12 16 0,2,1,4,3;h20 40 5,5,0,0,0,0,9,9;");
        due("19 is heard", x.says(0, 0, 20, 0), 19);
        due("fern from 16 on", x.says(0, 0, 20, 1), 2);
        due("9 is heard, mumbled", x.says(0, 0, 4, 0), 9);
        due("out below 12", x.says(0, 0, 4, 1), 0);
        due("22 is heard", x.says(0, 1, 0, 0), 22);
        due("had up from 20 on", x.says(0, 1, 0, 1), 1);
        sentence("A VISIT: a COMER lays a SIGN at a HOUSE: the answer;");
        for (int g = 0; g < 48; g++) {
            for (int c = 0; c < 2; c++) {
                visitIsLogged(x, c, 0, g);
                visitIsLogged(x, c, 1, g);
            }
        }
    }

    private static void visitIsLogged(GloveSigns x, int c, int h, int g) {
        int said = x.says(c, h, g, 1);
        String call = "visit(" + c + ", " + h + ", " + g + ")";
        due(call, x.visit(c, h, g), said);
        due(call + ": its comer", x.logged(0, 1), c);
        due(call + ": its house", x.logged(0, 2), h);
        due(call + ": its sign", x.logged(0, 3), g);
        due(call + ": its answer", x.logged(0, 4), said);
    }

    private static void eachHouseHardens() {
        sentence("A DAY: each HOUSE hardens: L is one more, if somebody was HAD UP there that day or had FERN");
        GloveSigns x = of("s0;c9 0 0;h9 40 0;h10 40 0;h10 9 0;h40 9 0;h0 40 0;h0 40 0;");
        for (int h = 0; h < 5; h++) {
            x.visit(0, h, 0);
        }
        int[][] hardness = {{9, 10, 10, 40, 0, 0}, {10, 9, 11, 40, 1, 0}, {9, 8, 10, 39, 0, 0}};
        for (int day = 0; day < 3; day++) {
            for (int h = 0; h < 6; h++) {
                due("L of " + h + ", day " + day, x.house(h, 0), hardness[day][h]);
            }
            x.day(1);
        }
    }

    private static void comersChange() {
        sentence("A COMER comes to MEAN another thing, STUFFS otherwise;");
        GloveSigns x = of("s0;c5 2 3;c5 2 3;h20 40 0,1,0,4;");
        due("meant", x.mean(0, 1), 3);
        due("means", x.comer(0, 2), 1);
        due("the other means", x.comer(1, 2), 3);
        due("suits by it", x.suits(0, 0), 10);
        due("the other suits", x.suits(1, 0), 19);
        due("heard alike", x.says(0, 0, 4, 0), 19);
        due("stuffed", x.stuff(0, 9), 2);
        due("stuffs", x.comer(0, 1), 9);
        due("the other stuffs", x.comer(1, 1), 2);
        due("heard by it", x.says(0, 0, 4, 0), 26);
        due("the other heard", x.says(1, 0, 4, 0), 19);
        due("gains", x.gains(0, 0), 9);
        due("worth as told", x.comer(0, 0), 5);
    }

    private static void signsOfAComer() {
        sentence("SIGNS of a COMER for a HOUSE: SIGNS by which he would be HAD UP or have FERN now: how many;");
        for (int manners = 0; manners < 3; manners++) {
            GloveSigns x = of("s" + manners + ";c4 3 2;h15 22 1,0,4,9,2,7,3,5;h22 16 1,0,4,9,2,7,3,5;");
            int[] prizes = {1, 0, 4, 9, 2, 7, 3, 5};
            int[] from = {15, 16};
            for (int h = 0; h < 2; h++) {
                int count = 0;
                for (int g = 0; g < 48; g++) {
                    int heard = 7 + 3 * prizes[meaningOf(g)] - (isSaid(manners, g) ? 0 : 10);
                    count += heard >= from[h] ? 1 : 0;
                }
                due("manners " + manners + ", house " + h, x.signs(0, h, 0), count);
            }
        }
    }

    private static void suits() {
        sentence("SUITS of a COMER and a HOUSE: what it HEARS of him at most by a SIGN that is SAID and MEANS what he MEANS;");
        int[] prizes = {1, 0, 4, 9, 2, 7, 3, 5};
        for (int manners = 0; manners < 3; manners++) {
            GloveSigns x = of("s" + manners + ";c4 3 2;h0 0 1,0,4,9,2,7,3,5;");
            for (int meaning = 0; meaning < 8; meaning++) {
                x.mean(0, meaning);
                // By manners 2 only a LEFT on its back could mean 6.
                int due = manners == 2 && meaning == 6 ? NONE : 7 + 3 * prizes[meaning];
                due("manners " + manners + ", meaning " + meaning, x.suits(0, 0), due);
            }
        }
    }

    private static void leastAsksFirst() {
        sentence("MATCHED: COMERS choose HOUSES, each HOUSE one COMER: each not MATCHED asks, the least number first, of HOUSES");
        // 0 has house 0, is put off by 1, has house 1; 1 is put off by 2, and puts 0 off at house 1.
        matched("s0;c1 0 0;c2 0 0;c3 0 0;h0 0 1;h0 0 0;", NONE, 1, 0);
        matched("s0;c3 0 0;c2 0 0;c1 0 0;h0 0 1;h0 0 0;", 0, 1, NONE);
        matched("s0;c2 0 0;c3 0 0;c1 0 0;h0 0 0;h0 0 1;", 0, 1, NONE);
        matched("s0;c2 0 0;c2 0 0;c2 0 0;h0 0 0;h0 0 0;", 0, 1, NONE);
        // They suit by 13 and 16, by 16 and 13, by 9 and 9: the third is refused by both.
        matched("s0;c4 0 0;c4 0 1;c0 0 2;h0 0 3,4,3;h0 0 4,3,3;", 1, 0, NONE);
        // All are like ones, and would go to house 0, then to house 1: each keeps the lesser number.
        matched("s0;c1 4 0;c4 1 0;c5 0 0;h0 0 9;h0 0 8;h0 0 7;", 0, 1, 2);
    }

    private static void matched(String text, int first, int second, int third) {
        GloveSigns x = of(text);
        int[] houses = {first, second, third};
        for (int c = 0; c < 3; c++) {
            due("comer " + c + " of '" + text + "'", x.comer(c, 4), houses[c]);
            if (houses[c] != NONE) {
                due("house " + houses[c] + " of '" + text + "'", x.house(houses[c], 2), c);
            }
        }
    }

    private static void draws() {
        sentence("BY DRAWS: THE SEED (0 at first: each DRAW it becomes it times 1103515245 and 12345, left over by 2 to the 31;"
            + " the DRAW of n is it / 65536, left over by n): n DAYS: ahead of each,");
        // From 0 the seed becomes 12345, 1406932606, 654583775, 1449466924, 229283573, 1109335178.
        int[] drawn = {12345 / 65536, 1406932606 / 65536, 654583775 / 65536, 1449466924 / 65536, 229283573 / 65536, 1109335178 / 65536};
        GloveSigns x = of("s0;c9 0 0;c9 0 0;c9 0 0;h0 0 0;h0 0 0;h0 0 0;h0 0 0;h0 0 0;");
        due("a day by draws", x.drift(1), 1);
        due("the seed", x.seed(0), 1109335178);
        for (int i = 0; i < 2; i++) {
            int from = i * 3;
            due("visit " + i + ": comer", x.logged(1 - i, 1), drawn[from] % 3);
            due("visit " + i + ": house", x.logged(1 - i, 2), drawn[from + 1] % 5);
            due("visit " + i + ": sign", x.logged(1 - i, 3), drawn[from + 2] % 48);
            due("visit " + i + ": day", x.logged(1 - i, 0), 0);
        }
    }
}
