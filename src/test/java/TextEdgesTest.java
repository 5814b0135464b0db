/** The edges of section 1, the season's text, and of promises 1 to 4: each sentence by its case and its neighbours. */
public final class TextEdgesTest extends Edges {
    private static final String SIX_COMERS = "c1 1 1;".repeat(6);
    private static final String SIX_HOUSES = "h1 1 1;".repeat(6);

    public static void main(String[] args) {
        newObject();
        feedLetters();
        feedFull();
        fullText();
        manners();
        mannersFirstAndOnce();
        sixComers();
        comerBounds();
        sixHouses();
        houseBounds();
        prizes();
        figures();
        words();
        blanks();
        sideBySide();
        endOfText();
        leastFault();
        cannotStand();
        badNumbers();
        tooMany();
        emptyText();
        textIsEmptied();
        seasonBegins();
        seasonIsGone();
        seasonWithFault();
        latestFault();
        end();
    }

    private static void newObject() {
        sentence("`GloveSigns()`: No SEASON.");
        GloveSigns x = new GloveSigns();
        int[] told = {NONE, 0, 0, 0, 0, 0, 0, NONE, NONE, 0, 0, 0, 0, 0};
        for (int what = 0; what < told.length; what++) {
            due("told(" + what + ")", x.told(what), told[what]);
        }
        due("comer", x.comer(0, 0), UNKNOWN);
        due("house", x.house(0, 0), UNKNOWN);
        due("sign", x.sign(0, 0), NOT);
        due("day", x.day(1), NOT);
        due("drift", x.drift(1), NOT);
        due("undo", x.undo(1), NOT);
        due("clear", x.clear(0, 0), NOT);
        due("couldBe", x.couldBe(0), NOT);
        due("part", x.part(), NOT);
        due("goBack", x.goBack(0), NOT);
        due("judge", x.judge(), NONE);
        due("logged", x.logged(0, 0), NONE);
        feedAll(x, "s0;");
        due("sign with a text that is not a season yet", x.sign(0, 0), NOT);
        due("season", x.season(), 0);
        due("sign in the season", x.sign(0, 0), 0);
    }

    private static void feedLetters() {
        sentence("A letter (0 .. 255) comes behind THE TEXT: how many it has.");
        GloveSigns x = new GloveSigns();
        due("feed(-1)", x.feed(-1), OUTSIDE);
        due("feed(0)", x.feed(0), 1);
        due("feed(1)", x.feed(1), 2);
        due("feed(254)", x.feed(254), 3);
        due("feed(255)", x.feed(255), 4);
        due("feed(256)", x.feed(256), OUTSIDE);
        due("feed(MIN)", x.feed(MIN), OUTSIDE);
        due("feed(MAX)", x.feed(MAX), OUTSIDE);
        due("letters", x.told(3), 4);
        GloveSigns y = new GloveSigns();
        y.feed('s');
        y.feed(256 + '9');
        y.feed('1');
        y.feed(-'9');
        y.feed(';');
        due("season without the refused letters", y.season(), 0);
        due("manners", y.told(0), 1);
    }

    private static void feedFull() {
        sentence("OUTSIDE, FULL (240).");
        GloveSigns x = new GloveSigns();
        for (int i = 1; i <= 239; i++) {
            due("feed", x.feed(' '), i);
        }
        due("letters", x.told(3), 239);
        due("the 240th", x.feed('s'), 240);
        due("the 241st", x.feed('s'), FULL);
        due("the 242nd", x.feed(' '), FULL);
        due("a letter out of its bounds behind it", x.feed(256), OUTSIDE);
        due("letters", x.told(3), 240);
        due("season: its number is missing at the end", x.season(), -11);
        due("fault", x.fault(), 240);
        due("feed behind it", x.feed(' '), 1);
    }

    private static void fullText() {
        sentence("THE SEASON is told in a text (240 letters at most), letter by letter");
        reads("s0;" + " ".repeat(229) + "c1 1 1;", 1);
        reads("s0;" + " ".repeat(230) + "c1 1 1;", 1);
        faults("s0;" + " ".repeat(231) + "c1 1 1;", 1, 240);
        faults("s0;" + " ".repeat(236) + "s", 3, 239);
        reads("s0;" + " ".repeat(237) + "s", 0);
    }

    private static void manners() {
        sentence("(MANNERS M, 0 .. 2; first, once)");
        for (int m = 0; m <= 2; m++) {
            due("manners " + m, of("s" + m + ";").told(0), m);
        }
        faults("s3;", 2, 1);
        faults("s10;", 2, 1);
        faults("s999;", 2, 1);
        faults("s-1;", 1, 1);
    }

    private static void mannersFirstAndOnce() {
        sentence("another word first than 's'");
        faults("c1 1 1;s0;", 1, 0);
        faults("h1 1 1;s0;", 1, 0);
        faults("  c1 1 1;s0;", 1, 2);
        faults("c", 1, 0);
        reads("  s0;c1 1 1;", 1);
        sentence("3 's' again, a seventh 'c', 'h' (at it).");
        faults("s0;s0;", 3, 3);
        faults("s0;s", 3, 3);
        faults("s0;  s1;", 3, 5);
        faults("s0;c1 1 1;s0;", 3, 10);
        faults("s0;c1 1 1;h1 1 1;s0;", 3, 17);
    }

    private static void sixComers() {
        sentence("(6 COMERS at most: WORTH W, 0 .. 9; STUFFS by K, 0 .. 9; MEANS N, 0 .. 7)");
        for (int n = 0; n <= 6; n++) {
            reads("s0;" + "c1 1 1;".repeat(n), n);
            due("comers", of("s0;" + "c1 1 1;".repeat(n)).told(1), n);
        }
        faults("s0;" + "c1 1 1;".repeat(7), 3, 45);
        faults("s0;" + "c1 1 1;".repeat(8), 3, 45);
        faults("s0;" + SIX_COMERS + " c", 3, 46);
        GloveSigns x = of("s0;" + SIX_COMERS);
        due("the last comer", x.comer(5, 0), 1);
        due("a seventh", x.comer(6, 0), UNKNOWN);
    }

    private static void comerBounds() {
        sentence("WORTH W, 0 .. 9; STUFFS by K, 0 .. 9; MEANS N, 0 .. 7");
        int[] most = {9, 9, 7};
        for (int slot = 0; slot < 3; slot++) {
            for (int value : new int[] {0, 1, most[slot] - 1, most[slot]}) {
                due("slot " + slot + " is " + value, of("s0;" + comerWith(slot, value)).comer(0, slot), value);
            }
            for (int value : new int[] {most[slot] + 1, most[slot] + 2, 99, 100, 999}) {
                faults("s0;" + comerWith(slot, value), 2, 4 + 2 * slot);
            }
            faults("s0;" + comerWith(slot, -1), 1, 4 + 2 * slot);
        }
    }

    private static String comerWith(int slot, int value) {
        int[] numbers = {1, 2, 3};
        numbers[slot] = value;
        return "c" + numbers[0] + " " + numbers[1] + " " + numbers[2] + ";";
    }

    private static void sixHouses() {
        sentence("(6 HOUSES at most: has up from L on, 0 .. 40; gives FERN from F on, 0 .. 40;");
        for (int n = 0; n <= 6; n++) {
            due("houses", of("s0;" + "h1 1 1;".repeat(n)).told(2), n);
        }
        faults("s0;" + "h1 1 1;".repeat(7), 3, 45);
        faults("s0;" + SIX_COMERS + SIX_HOUSES + "h", 3, 87);
        reads("s0;" + SIX_HOUSES + SIX_COMERS, 6);
        GloveSigns x = of("s0;" + SIX_HOUSES);
        due("the last house", x.house(5, 0), 1);
        due("a seventh", x.house(6, 0), UNKNOWN);
    }

    private static void houseBounds() {
        sentence("has up from L on, 0 .. 40; gives FERN from F on, 0 .. 40;");
        for (int value : new int[] {0, 1, 39, 40}) {
            due("L " + value, of("s0;h" + value + " 7 1;").house(0, 0), value);
            due("F " + value, of("s0;h7 " + value + " 1;").house(0, 1), value);
        }
        for (int value : new int[] {41, 42, 99, 100, 400, 999}) {
            faults("s0;h" + value + " 7 1;", 2, 4);
            faults("s0;h7 " + value + " 1;", 2, 6);
        }
        faults("s0;h-1 7 1;", 1, 4);
        faults("s0;h7 -1 1;", 1, 6);
    }

    private static void prizes() {
        sentence("PRIZES of MEANINGS in turn, 1 to 8 numbers, 0 .. 9; none told: 0).");
        faults("s0;h7 7;", 1, 7);
        faults("s0;h7 7 ;", 1, 8);
        faults("s0;h7 7,1;", 1, 7);
        String row = "9";
        for (int n = 1; n <= 8; n++) {
            GloveSigns x = of("s0;h7 7 " + row + ";");
            for (int meaning = 0; meaning < 8; meaning++) {
                due(n + " prizes, of " + meaning, x.prize(0, meaning), meaning < n ? 9 - meaning : 0);
            }
            row = row + "," + (9 - n);
        }
        faults("s0;h7 7 " + row + ";", 1, 23);
        for (int place = 0; place < 8; place++) {
            String ahead = "s0;h7 7 " + "0,".repeat(place);
            due("prize 0", of(ahead + "0;").prize(0, place), 0);
            due("prize 9", of(ahead + "9;").prize(0, place), 9);
            faults(ahead + "10;", 2, ahead.length());
            faults(ahead + "1,;", 1, ahead.length() + (place < 7 ? 2 : 1));
            faults(ahead + ";", 1, ahead.length());
            faults(ahead + "1 1;", 1, ahead.length() + 2);
        }
        GloveSigns y = of("s0;h7 7 1,2,3,4,5,6,7,8;h7 7 9;");
        due("none told behind a house with all", y.prize(1, 1), 0);
        feedAll(y, "s0;h7 7 5,5,5,5;h7 7 5,5,5,5,x");
        due("a text with a fault", y.season(), -11);
        feedAll(y, "s0;h7 7 9;h7 7 9,9;");
        due("a text that tells fewer", y.season(), 0);
        due("none told behind a text with all", y.prize(0, 1), 0);
        due("none told behind a text with all", y.prize(0, 7), 0);
        due("none told behind a text with a fault", y.prize(1, 2), 0);
        sentence("a ninth P: at its ','");
        faults("s0;h7 7 1,2,3,4,5,6,7,8,9;", 1, 23);
        faults("s0;h7 7 1,2,3,4,5,6,7,8,;", 1, 23);
        faults("s0;h7 7 1,2,3,4,5,6,7,8 , 9;", 1, 24);
        faults("s0;h7 7 1,2,3,4,5,6,7,8,1000;", 1, 23);
        faults("s0;h7 7 1,2,3,4,5,6,7,8", 1, 23);
        reads("s0;h7 7 1,2,3,4,5,6,7,8 ;", 0);
    }

    private static void figures() {
        sentence("NUMBERS have one to three figures;");
        faults("s;", 1, 1);
        reads("s1;", 0);
        reads("s01;", 0);
        reads("s001;", 0);
        faults("s0001;", 2, 1);
        faults("s00001;", 2, 1);
        due("manners 002", of("s002;").told(0), 2);
        GloveSigns x = of("s000;c009 009 007;h040 040 009,008;");
        due("W 009", x.comer(0, 0), 9);
        due("K 009", x.comer(0, 1), 9);
        due("N 007", x.comer(0, 2), 7);
        due("L 040", x.house(0, 0), 40);
        due("F 040", x.house(0, 1), 40);
        due("P 009", x.prize(0, 0), 9);
        due("P 008", x.prize(0, 1), 8);
        faults("s0;c0009 1 1;", 2, 4);
        faults("s0;c1 0009 1;", 2, 6);
        faults("s0;c1 1 0007;", 2, 8);
        faults("s0;h0040 1 1;", 2, 4);
        faults("s0;h1 0040 1;", 2, 6);
        faults("s0;h1 1 0009;", 2, 8);
        faults("s0;h1 1 1,0009;", 2, 10);
    }

    private static void words() {
        sentence("a word is one letter;");
        faults("ss0;", 1, 1);
        faults("s0;cc1 1 1;", 1, 4);
        faults("s0;hh1 1 1;", 1, 4);
        faults("s0;ch1 1 1;", 1, 4);
        reads("s0;c1 1 1;", 1);
    }

    private static void blanks() {
        sentence("blanks (32) may stand anywhere but within NUMBERS;");
        String text = "s0;c1 2 3;h12 25 6,7;";
        reads(text, 1);
        for (int i = 0; i <= text.length(); i++) {
            String spread = text.substring(0, i) + " " + text.substring(i);
            if (i == 12) {
                faults(spread, 2, 15);
            } else if (i == 15) {
                faults(spread, 1, 18);
            } else {
                reads(spread, 1);
            }
            for (int near : new int[] {31, 33, 9, 10, 0, 160, 255}) {
                faults(text.substring(0, i) + (char) near + text.substring(i), 1, i);
            }
        }
        GloveSigns x = of("   s  2  ;  c  1  2  3  ;  h  12  25  6  ,  7  ;   ");
        due("manners", x.told(0), 2);
        due("L", x.house(0, 0), 12);
        due("F", x.house(0, 1), 25);
        due("the second prize", x.prize(0, 1), 7);
        sentence("blanks (32) may stand anywhere but within NUMBERS; two NUMBERS side by side need one.");
        faults("s0 0;", 1, 3);
        faults("s0;c1 2 3 4;", 1, 10);
    }

    private static void sideBySide() {
        sentence("two NUMBERS side by side need one.");
        reads("s0;c1 2 3;", 1);
        reads("s0;c1  2  3;", 1);
        faults("s0;c12 3;", 2, 4);
        faults("s0;c1 23;", 2, 6);
        faults("s0;c123;", 2, 4);
        faults("s0;c01 2;", 1, 8);
        faults("s0;h12 6;", 1, 8);
        faults("s0;h1 26;", 1, 8);
        reads("s0;h1 2 6;", 0);
        reads("s0;c1 2 3;h1 2 3,4;", 1);
    }

    private static void endOfText() {
        sentence("FAULTS, at the first letter that has one (the end at the text's length)");
        String text = "s0;c1 2 3;h12 25 6,7;";
        for (int i = 1; i <= text.length(); i++) {
            String begun = text.substring(0, i);
            if (i == 3 || i == 10 || i == 21) {
                reads(begun, i == 3 ? 0 : 1);
                reads(begun + "  ", i == 3 ? 0 : 1);
            } else {
                faults(begun, 1, i);
                faults(begun + "  ", 1, i + 2);
            }
        }
    }

    private static void leastFault() {
        sentence("of these the least: 1 it cannot stand there");
        faults("1000", 1, 0);
        faults("s0 1000;", 1, 3);
        faults("s0 9;", 1, 3);
        faults("s0;1000", 1, 3);
        faults("s0;c1 2 3 1000;", 1, 10);
        faults("s0;h1 2 3 1000;", 1, 10);
        faults("s0;" + SIX_COMERS + "h1 1 c", 1, 50);
        faults("s0;" + SIX_HOUSES + "c1 1 h", 1, 50);
        faults("s0;c1 s", 1, 6);
        sentence("FAULTS, at the first letter that has one");
        faults("s3;x", 2, 1);
        faults("s3", 2, 1);
        faults("s3x", 2, 1);
        faults("s0000x", 2, 1);
        faults("s0;s3;", 3, 3);
        faults("s0;sx", 3, 3);
        faults("s0;xs", 1, 3);
        faults("s0;c1 2 9;c", 2, 8);
        faults("s0;" + SIX_COMERS + "c1000", 3, 45);
        faults("s0;" + SIX_COMERS + "x", 1, 45);
    }

    private static void cannotStand() {
        sentence("1 it cannot stand there (a letter that is no word,");
        for (int letter = 0; letter < 256; letter++) {
            String first = String.valueOf((char) letter);
            if (letter == 's') {
                faults(first, 1, 1);
                faults("s0;" + first, 3, 3);
            } else if (letter != ' ') {
                faults(first, 1, 0);
                faults("s0;" + first, 1, letter == 'c' || letter == 'h' ? 4 : 3);
            }
            boolean figure = letter >= '0' && letter <= '9';
            if (letter != ' ' && !figure) {
                faults("s" + first, 1, 1);
                faults("s0;c1 2 " + first, 1, 8);
                faults("s0;h1 2 " + first, 1, 8);
            }
            if (letter != ' ' && letter != ';' && !figure) {
                faults("s0" + first, 1, 2);
                faults("s0;c1 2 3" + first, 1, 9);
            }
            if (letter != ' ' && letter != ';' && letter != ',' && !figure) {
                faults("s0;h1 2 3" + first, 1, 9);
            }
        }
        reads("s0; ", 0);
        faults("S0;", 1, 0);
        faults("s0;C1 2 3;", 1, 3);
        faults("s0;H1 2 3;", 1, 3);
    }

    private static void badNumbers() {
        sentence("2 a NUMBER of four figures or more, or out of its bounds (at its first).");
        reads("s000;", 0);
        faults("s0000;", 2, 1);
        faults("s   0000;", 2, 4);
        faults("s00000000000000000000;", 2, 1);
        faults("s4294967296;", 2, 1);
        faults("s18446744073709551616;", 2, 1);
        faults("s" + "0".repeat(239), 2, 1);
        faults("s" + "9".repeat(239), 2, 1);
        faults("s   3;", 2, 4);
        faults("s0;c1 2   8;", 2, 10);
        faults("s0;h1 2 3,  10;", 2, 12);
        reads("s0;h1 2 3,  9;", 0);
    }

    private static void tooMany() {
        sentence("3 's' again, a seventh 'c', 'h' (at it).");
        faults("s0;" + SIX_COMERS + "c1 1 1;", 3, 45);
        faults("s0;" + SIX_HOUSES + "h1 1 1;", 3, 45);
        faults("s0;" + "c1 1 1;h1 1 1;".repeat(6) + "  c", 3, 89);
        faults("s0;" + "c1 1 1;h1 1 1;".repeat(6) + "h", 3, 87);
        faults("s0;" + "c1 1 1;h1 1 1;".repeat(6) + "s", 3, 87);
        reads("s0;" + "c1 1 1;h1 1 1;".repeat(6), 6);
        reads("s0;" + SIX_COMERS + "h1 1 1;", 6);
        reads("s0;" + SIX_HOUSES + "c1 1 1;", 1);
    }

    private static void emptyText() {
        sentence("An empty text: no SEASON.");
        GloveSigns x = new GloveSigns();
        due("season", x.season(), 0);
        due("fault", x.fault(), NONE);
        due("manners", x.told(0), NONE);
        feedAll(x, "s0;c1 1 1;h1 1 1;");
        due("a season", x.season(), 1);
        due("manners", x.told(0), 0);
        x.drift(1);
        x.keep(0);
        x.drift(2);
        due("empty again", x.season(), 0);
        int[] told = {NONE, 0, 0, 0, 0, 0, 0, NONE, NONE, 0, 0, 0, 0, 0};
        for (int what = 0; what < told.length; what++) {
            due("told(" + what + ")", x.told(what), told[what]);
        }
        due("comer", x.comer(0, 0), UNKNOWN);
        due("house", x.house(0, 0), UNKNOWN);
        due("image", x.goBack(0), NOT);
        due("undo", x.undo(1), NOT);
        feedAll(x, " ");
        due("blanks alone", x.season(), 0);
        due("no season by blanks", x.told(0), NONE);
        feedAll(x, "s0;");
        due("manners alone", x.season(), 0);
        due("are a season", x.told(0), 0);
    }

    private static void textIsEmptied() {
        sentence("THE TEXT (it is empty then, with a FAULT, too) becomes THE SEASON");
        GloveSigns x = new GloveSigns();
        feedAll(x, "s0;");
        due("letters", x.told(3), 3);
        x.season();
        due("letters behind a season", x.told(3), 0);
        feedAll(x, "s0;x");
        due("letters", x.told(3), 4);
        due("a fault", x.season(), -11);
        due("letters behind a fault", x.told(3), 0);
        due("feed", x.feed('s'), 1);
        feedAll(x, "1;");
        due("the text anew", x.season(), 0);
        due("its manners", x.told(0), 1);
        feedAll(x, "s");
        x.season();
        feedAll(x, "2;");
        due("nothing is left of the text with a fault", x.season(), -11);
        due("its fault", x.fault(), 0);
    }

    private static GloveSigns lively() {
        GloveSigns x = of("s1;c9 9 0;c8 0 0;h0 40 9;h40 0 1;");
        x.seed(77);
        visits(x, 3, 0, 0, 0);
        x.day(1);
        x.visit(1, 1, 0);
        x.meant(0, 1);
        x.write(0, 1);
        x.write(1, 2);
        return x;
    }

    private static void seasonBegins() {
        sentence("(DAY 0, no CALLS, nobody a KNOWN SHAM, THE LOG is empty; nothing MEANT, no BOOK;");
        GloveSigns x = lively();
        int[] before = {1, 2, 2, 0, 1, 2, 4, 0, 1, 32, 4, 1, 2, 5};
        for (int what = 0; what < before.length; what++) {
            due("before: told(" + what + ")", x.told(what), before[what]);
        }
        due("before: a sham", x.comer(0, 3), 1);
        feedAll(x, "s1;c9 9 0;c8 0 0;h0 40 9;h40 0 1;");
        due("season", x.season(), 2);
        int[] then = {1, 2, 2, 0, 0, 0, 0, NONE, 1, 32, 0, 0, 0, 0};
        for (int what = 0; what < then.length; what++) {
            due("then: told(" + what + ")", x.told(what), then[what]);
        }
        due("nobody a sham", x.comer(0, 3), 0);
        due("calls", x.calls(0, 0), 0);
        due("calls of a house", x.house(0, 3), 0);
        due("log", x.logged(0, 0), NONE);
        due("L as told", x.house(0, 0), 0);
        visits(x, 2, 0, 0, 0);
        due("let in twice since", x.comer(0, 3), 0);
        x.visit(0, 0, 0);
        due("let in three times since", x.comer(0, 3), 1);
    }

    private static void seasonIsGone() {
        sentence("IMAGES, what could be undone are gone; THE SEED stays)");
        GloveSigns x = lively();
        x.keep(0);
        x.keep(1);
        x.day(2);
        due("could be undone", x.told(13), 2);
        feedAll(x, "s0;c1 1 1;");
        x.season();
        due("undone", x.told(13), 0);
        due("undo", x.undo(1), NOT);
        due("image 0", x.goBack(0), NOT);
        due("image 1", x.goBack(1), NOT);
        due("the seed", x.seed(0), 77);
        x.keep(1);
        due("image 0 still", x.goBack(0), NOT);
        due("image 1 again", x.goBack(1), 1);
    }

    private static void seasonWithFault() {
        sentence("-10 less the number of its FAULT (all is as it was).");
        GloveSigns x = lively();
        x.keep(1);
        x.mean(0, 5);
        feedAll(x, "x");
        due("fault 1", x.season(), -11);
        feedAll(x, "s2;c10 1 1;");
        due("fault 2", x.season(), -12);
        feedAll(x, "s2;c1 1 1;c1 1 1;c1 1 1;h1 1 1;h1 1 1;h1 1 1;s");
        due("fault 3", x.season(), -13);
        int[] told = {1, 2, 2, 0, 1, 2, 4, 0, 1, 32, 4, 1, 2, 1};
        for (int what = 0; what < told.length; what++) {
            due("told(" + what + ")", x.told(what), told[what]);
        }
        due("worth", x.comer(0, 0), 9);
        due("means", x.comer(0, 2), 5);
        due("sham", x.comer(0, 3), 1);
        due("L 0", x.house(0, 0), 1);
        due("F 0", x.house(0, 1), 40);
        due("prize", x.prize(0, 0), 9);
        due("a third house", x.house(2, 0), UNKNOWN);
        due("undo", x.undo(1), 1);
        due("image", x.goBack(1), 1);
        due("the seed", x.seed(0), 77);
    }

    private static void latestFault() {
        sentence("The letter of the FAULT of the latest season(); NONE.");
        GloveSigns x = new GloveSigns();
        due("no season() yet", x.fault(), NONE);
        feedAll(x, "x");
        due("not read yet", x.fault(), NONE);
        x.season();
        due("at 0", x.fault(), 0);
        feedAll(x, "s0;");
        due("still", x.fault(), 0);
        x.season();
        due("none any more", x.fault(), NONE);
        feedAll(x, "s3");
        x.season();
        due("at 1", x.fault(), 1);
        x.season();
        due("none by an empty text", x.fault(), NONE);
        feedAll(x, "s0;" + " ".repeat(236) + "x");
        x.season();
        due("at 239", x.fault(), 239);
        feedAll(x, "s" + " ".repeat(239));
        x.season();
        due("at the end, 240", x.fault(), 240);
    }
}
