/** The edges of what was meant, the book, the seed and images, promises 27 to 35: each sentence by its case and its neighbours. */
public final class MeantEdgesTest extends Edges {
    public static void main(String[] args) {
        meantBounds();
        meantFull();
        couldBe();
        couldBeNone();
        couldBeBounds();
        partBest();
        partNone();
        partNot();
        bookBounds();
        bookFull();
        wrong();
        wrongNow();
        tear();
        seedBounds();
        keepUnknown();
        keepForgets();
        imagesKeep();
        imagesKeepNot();
        goBackNot();
        goBackForgets();
        end();
    }

    private static void meantBounds() {
        sentence("MEANT (part 0 .. 3: v 0, 1; part 4: v 0 .. 2): how much.");
        for (int part = 0; part <= 4; part++) {
            GloveSigns x = of("s0;");
            int most = part == 4 ? 2 : 1;
            due("part " + part + ", v -1", x.meant(part, -1), OUTSIDE);
            for (int v = 0; v <= most; v++) {
                due("part " + part + ", v " + v, x.meant(part, v), v + 1);
            }
            due("part " + part + ", v " + (most + 1), x.meant(part, most + 1), OUTSIDE);
            due("part " + part + ", v MIN", x.meant(part, MIN), OUTSIDE);
            due("part " + part + ", v MAX", x.meant(part, MAX), OUTSIDE);
            due("how much", x.told(11), most + 1);
        }
        GloveSigns y = of("s0;");
        for (int part : new int[] {MIN, -1, 5, 6, MAX}) {
            due("part " + part, y.meant(part, 0), OUTSIDE);
        }
        due("nothing", y.told(11), 0);
        due("without a season", new GloveSigns().meant(4, 2), 1);
    }

    private static void meantFull() {
        sentence("OUTSIDE, FULL (6).");
        GloveSigns x = of("s0;");
        for (int i = 1; i <= 6; i++) {
            due("meant " + i, x.meant(0, 1), i);
        }
        due("a seventh", x.meant(0, 1), FULL);
        due("a seventh that would leave none", x.meant(0, 0), FULL);
        due("out of its bounds", x.meant(0, 2), OUTSIDE);
        due("how much", x.told(11), 6);
        due("could be still", x.couldBe(0), 24);
        x.tear();
        due("torn, the first again", x.meant(0, 0), 1);
        due("could be", x.couldBe(1), 0);
        sentence("MEANT (6 at most): of an unknown SIGN that was SAID a part was seen: part 0 .. 3 (bits) was so (1) or not (0),"
            + " part 4: THUMB was v (0 .. 2).");
        int[][] least = {{0, 1}, {0, 2}, {0, 4}, {0, 8}, {0, 16, 32}};
        for (int part = 0; part <= 4; part++) {
            for (int v = 0; v < least[part].length; v++) {
                GloveSigns one = of("s0;");
                one.meant(part, v);
                due("the least, part " + part + ", v " + v, one.couldBe(1), least[part][v]);
                due("how many, part " + part + ", v " + v, one.couldBe(0), part == 4 ? 16 : 24);
            }
        }
        GloveSigns y = of("s2;");
        for (int part = 0; part < 4; part++) {
            due("meant", y.meant(part, part == 0 ? 1 : 0), part + 1);
        }
        due("meant", y.meant(4, 1), 5);
        due("the one", y.couldBe(1), 17);
        due("meant a sixth time", y.meant(1, 1), 6);
        due("none", y.couldBe(0), 0);
    }

    private static void couldBe() {
        sentence("COULD BE: SIGNS by which all that is MEANT is so: how many; the least; MEANINGS (a SET) of these; NONE.");
        int[] counts = {48, 32, 30};
        int[] sets = {255, 255, 191};
        for (int m = 0; m < 3; m++) {
            GloveSigns x = of("s" + m + ";");
            due("nothing meant, how many", x.couldBe(0), counts[m]);
            due("nothing meant, the least", x.couldBe(1), 0);
            due("nothing meant, meanings", x.couldBe(2), sets[m]);
        }
        GloveSigns y = of("s1;");
        y.meant(2, 1);
        due("crossed: only with the thumb out", y.couldBe(0), 8);
        due("the least", y.couldBe(1), 20);
        due("3, 4, 4, 5, 4, 5, 5, 6", y.couldBe(2), 120);
        y.meant(3, 1);
        due("and a finger", y.couldBe(0), 4);
        due("the least", y.couldBe(1), 28);
        due("4, 5, 5, 6", y.couldBe(2), 112);
        y.meant(0, 1);
        y.meant(1, 1);
        due("one", y.couldBe(0), 1);
        due("31", y.couldBe(1), 31);
        due("6", y.couldBe(2), 64);
        y.meant(4, 1);
        due("one still", y.couldBe(0), 1);
        GloveSigns z = of("s0;");
        z.meant(4, 2);
        due("with a card", z.couldBe(0), 16);
        due("the least", z.couldBe(1), 32);
        due("7 alone", z.couldBe(2), 128);
        GloveSigns w = of("s0;");
        w.meant(3, 0);
        w.meant(2, 0);
        w.meant(1, 0);
        w.meant(0, 0);
        w.meant(4, 0);
        due("0 alone", w.couldBe(2), 1);
    }

    private static void couldBeNone() {
        sentence("COULD BE: what = 0 how many, 1 the least, 2 MEANINGS (a SET; 0); NONE.");
        GloveSigns x = of("s0;");
        x.meant(0, 0);
        due("24", x.couldBe(0), 24);
        x.meant(0, 1);
        due("none", x.couldBe(0), 0);
        due("no least", x.couldBe(1), NONE);
        due("no meanings", x.couldBe(2), 0);
        GloveSigns y = of("s2;");
        y.meant(3, 1);
        due("with a finger", y.couldBe(0), 12);
        y.meant(4, 2);
        due("and a card, which is not said", y.couldBe(0), 0);
        due("no least", y.couldBe(1), NONE);
        due("no meanings", y.couldBe(2), 0);
    }

    private static void couldBeBounds() {
        sentence("2 MEANINGS (a SET; 0); NONE. OUTSIDE, NOT: no SEASON.");
        GloveSigns x = of("s0;");
        due("what -1", x.couldBe(-1), OUTSIDE);
        due("what 0", x.couldBe(0), 48);
        due("what 2", x.couldBe(2), 255);
        due("what 3", x.couldBe(3), OUTSIDE);
        due("what MIN", x.couldBe(MIN), OUTSIDE);
        due("what MAX", x.couldBe(MAX), OUTSIDE);
        x.season();
        for (int what = 0; what < 3; what++) {
            due("no season", x.couldBe(what), NOT);
        }
        due("no season, what -1", x.couldBe(-1), OUTSIDE);
        due("no season, what 3", x.couldBe(3), OUTSIDE);
    }

    private static void partBest() {
        sentence("PART: the part (0 .. 4) by which these are told apart best: the greatest part that is alike is least;"
            + " of like ones the least;");
        GloveSigns x = of("s0;");
        due("16 by the thumb, 24 by others", x.part(), 4);
        x.meant(4, 1);
        due("8 of 16 by all others", x.part(), 0);
        x.meant(0, 1);
        due("4 of 8 by the others", x.part(), 1);
        x.meant(1, 1);
        due("2 of 4", x.part(), 2);
        x.meant(2, 1);
        due("1 of 2", x.part(), 3);
        // By manners 1: 24 without, 8 with crossing; by the thumb 8, 16, 8; by the others 16 of 32.
        GloveSigns y = of("s1;");
        due("16 by parts 0, 1, 3, 4", y.part(), 0);
        y.meant(0, 0);
        due("8 by parts 1, 3, 4", y.part(), 1);
        y.meant(1, 0);
        due("4 by parts 3, 4", y.part(), 3);
        y.meant(3, 0);
        due("in, out, crossed out, with a card: 2 by the thumb, 3 by crossing", y.part(), 4);
        // By manners 2: 12, 12, 6 by the thumb; 20 of 30 by 0 and by 1; 15 by crossing; 18 by the finger.
        GloveSigns z = of("s2;");
        due("12 by the thumb", z.part(), 4);
        z.meant(4, 0);
        due("8, 8, 6, 6 of 12", z.part(), 2);
        z.meant(2, 0);
        due("4, 4, 3 of 6", z.part(), 3);
        z.meant(3, 0);
        due("2, 2 of 3", z.part(), 0);
        z.meant(0, 0);
        due("1 of 2", z.part(), 1);
    }

    private static void partNone() {
        sentence("NONE: none parts them.");
        GloveSigns x = of("s0;");
        x.meant(0, 0);
        x.meant(1, 0);
        x.meant(2, 0);
        x.meant(3, 0);
        due("three by the thumb", x.part(), 4);
        x.meant(4, 2);
        due("one", x.couldBe(0), 1);
        due("one is not parted", x.part(), NONE);
        x.meant(4, 1);
        due("none", x.couldBe(0), 0);
        due("none is not parted", x.part(), NONE);
        GloveSigns y = of("s2;");
        y.meant(0, 1);
        y.meant(3, 1);
        y.meant(4, 1);
        due("two: 25, 29", y.couldBe(0), 2);
        due("by crossing", y.part(), 2);
        y.meant(2, 0);
        due("25 alone: 27 is not said", y.part(), NONE);
    }

    private static void partNot() {
        sentence("PART; NONE. NOT: no SEASON.");
        GloveSigns x = new GloveSigns();
        due("no season", x.part(), NOT);
        x.meant(0, 0);
        due("no season, something meant", x.part(), NOT);
        feedAll(x, "s0;");
        x.season();
        due("a season", x.part(), 4);
        x.season();
        due("none again", x.part(), NOT);
    }

    private static void bookBounds() {
        sentence("An entry behind THE BOOK (L 0 .. 40): how many.");
        GloveSigns x = of("s0;h0 0 0;h40 0 0;");
        due("L -1", x.write(0, -1), OUTSIDE);
        due("L 0", x.write(0, 0), 1);
        due("L 40", x.write(1, 40), 2);
        due("L 41", x.write(1, 41), OUTSIDE);
        due("L MIN", x.write(0, MIN), OUTSIDE);
        due("L MAX", x.write(0, MAX), OUTSIDE);
        due("house 2", x.write(2, 0), UNKNOWN);
        due("house -1", x.write(-1, 0), UNKNOWN);
        due("entries", x.told(12), 2);
        due("both are right", x.judge(), NONE);
        due("no houses", of("s0;").write(0, 0), UNKNOWN);
        due("no season", new GloveSigns().write(0, 0), UNKNOWN);
    }

    private static void bookFull() {
        sentence("UNKNOWN, OUTSIDE, FULL (20).");
        GloveSigns x = of("s0;h5 0 0;");
        for (int i = 1; i <= 19; i++) {
            due("write", x.write(0, 5), i);
        }
        due("right", x.judge(), NONE);
        due("the 20th", x.write(0, 6), 20);
        due("it is wrong", x.judge(), 19);
        due("a 21st", x.write(0, 5), FULL);
        due("a 21st, L 41", x.write(0, 41), OUTSIDE);
        due("a 21st, house 1", x.write(1, 41), UNKNOWN);
        due("entries", x.told(12), 20);
        x.tear();
        due("torn, the first again", x.write(0, 5), 1);
    }

    private static void wrong() {
        sentence("THE BOOK (20 at most) tells from what HOUSES have up (L): WRONG: the first that is otherwise now; NONE.");
        GloveSigns x = of("s0;c0 0 0;h0 40 0;h5 40 0;h40 40 0;");
        due("no book", x.judge(), NONE);
        x.write(0, 0);
        x.write(1, 5);
        x.write(2, 40);
        due("all right", x.judge(), NONE);
        x.write(1, 4);
        due("one less", x.judge(), 3);
        x.write(2, 39);
        due("the first of two", x.judge(), 3);
        x.tear();
        x.write(1, 6);
        due("one more", x.judge(), 0);
        due("without a season", new GloveSigns().judge(), NONE);
    }

    private static void wrongNow() {
        sentence("`int judge()`: WRONG; NONE.");
        GloveSigns x = of("s0;c0 0 0;h0 40 0;h5 40 0;");
        x.write(0, 0);
        x.write(1, 5);
        x.write(1, 4);
        due("the third", x.judge(), 2);
        x.day(1);
        due("the second, a day later", x.judge(), 1);
        x.visit(0, 0, 0);
        due("a visit changes no L", x.judge(), 1);
        x.day(1);
        due("the first, hardened", x.judge(), 0);
        x.undo(3);
        due("undone", x.judge(), 2);
    }

    private static void tear() {
        sentence("Nothing MEANT, no BOOK: how much both had.");
        GloveSigns x = of("s0;h5 0 0;");
        due("nothing", x.tear(), 0);
        x.meant(0, 0);
        due("one meant", x.tear(), 1);
        x.write(0, 0);
        due("one entry", x.tear(), 1);
        for (int i = 0; i < 21; i++) {
            x.meant(0, 0);
            x.write(0, 0);
        }
        due("both full", x.tear(), 26);
        due("again", x.tear(), 0);
        due("meant", x.told(11), 0);
        due("entries", x.told(12), 0);
        due("could be all", x.couldBe(0), 48);
        due("judge", x.judge(), NONE);
        due("without a season", new GloveSigns().tear(), 0);
    }

    private static void seedBounds() {
        sentence("THE SEED becomes v (0 .. 2147483647): what it was. OUTSIDE.");
        GloveSigns x = new GloveSigns();
        due("0 at first", x.seed(1), 0);
        due("-1", x.seed(-1), OUTSIDE);
        due("MIN", x.seed(MIN), OUTSIDE);
        due("still 1", x.seed(0), 1);
        due("still 0", x.seed(2147483646), 0);
        due("2147483646", x.seed(2147483647), 2147483646);
        due("2147483647", x.seed(0), 2147483647);
    }

    private static void keepUnknown() {
        sentence("IMAGE i becomes what is so (nothing can be undone then): 1. UNKNOWN.");
        GloveSigns x = of("s0;h5 0 0;");
        x.day(1);
        for (int i : new int[] {MIN, -1, 2, 3, MAX}) {
            due("keep(" + i + ")", x.keep(i), UNKNOWN);
        }
        due("can be undone still", x.told(13), 1);
        due("keep(0)", x.keep(0), 1);
        due("keep(1)", x.keep(1), 1);
        due("without a season", new GloveSigns().keep(0), 1);
    }

    private static void keepForgets() {
        sentence("(nothing can be undone then): 1. UNKNOWN.");
        for (int i = 0; i < 2; i++) {
            GloveSigns x = of("s0;h5 0 0;");
            x.day(2);
            due("two", x.told(13), 2);
            x.keep(i);
            due("none", x.told(13), 0);
            due("undo", x.undo(1), NOT);
            x.day(1);
            due("one since", x.told(13), 1);
            due("undo to the image", x.undo(1), 2);
        }
    }

    private static void imagesKeep() {
        sentence("IMAGES 0, 1 keep all of section 2, THE SEED.");
        GloveSigns x = of("s0;c9 5 1;h3 40 0;");
        x.seed(7);
        visits(x, 2, 0, 0, 0);
        x.keep(0);
        x.visit(0, 0, 9);
        x.day(3);
        x.mean(0, 2);
        x.stuff(0, 6);
        x.seed(8);
        x.keep(1);
        x.pardon(0, 0);
        x.drift(4);
        x.goBack(0);
        due("days of image 0", x.told(4), 0);
        due("open that day", x.told(5), 1);
        due("calls", x.calls(0, 0), 2);
        due("no sham", x.comer(0, 3), 0);
        due("means", x.comer(0, 2), 1);
        due("stuffs", x.comer(0, 1), 5);
        due("L", x.house(0, 0), 3);
        due("log", x.told(10), 2);
        due("the seed", x.seed(1), 7);
        x.visit(0, 0, 0);
        due("counted on", x.comer(0, 3), 1);
        x.goBack(1);
        due("days of image 1", x.told(4), 3);
        due("open that day", x.told(5), 0);
        due("calls", x.calls(0, 0), 3);
        due("a sham", x.comer(0, 3), 1);
        due("means", x.comer(0, 2), 2);
        due("stuffs", x.comer(0, 1), 6);
        due("L", x.house(0, 0), 2);
        due("log", x.told(10), 3);
        due("log, the latest", x.logged(0, 3), 9);
        due("the seed", x.seed(1), 8);
        x.keep(1);
        x.pardon(0, 0);
        x.visit(0, 0, 0);
        x.goBack(0);
        due("image 0 as it was kept", x.calls(0, 0), 2);
        x.stuff(0, 4);
        x.visit(0, 0, 0);
        due("let in, but not so: counted as it was kept", x.comer(0, 3), 0);
        x.stuff(0, 5);
        x.visit(0, 0, 0);
        due("and so: the third time", x.comer(0, 3), 1);
        x.goBack(0);
        due("its seed as it was kept", x.seed(1), 7);
        x.day(1);
        x.keep(0);
        x.day(1);
        x.goBack(0);
        due("image 0 anew", x.told(4), 1);
        due("its seed anew", x.seed(9), 1);
        x.goBack(1);
        due("image 1 still", x.told(4), 3);
    }

    private static void imagesKeepNot() {
        sentence("IMAGES 0, 1 keep all of section 2");
        GloveSigns x = of("s0;c9 5 1;h3 40 0;");
        x.meant(0, 0);
        x.write(0, 3);
        x.feed('s');
        x.keep(0);
        x.meant(1, 0);
        x.write(0, 4);
        x.feed('1');
        x.goBack(0);
        due("meant is none of it", x.told(11), 2);
        due("the book is none of it", x.told(12), 2);
        due("the text is none of it", x.told(3), 2);
        x.tear();
        x.goBack(0);
        due("torn still", x.told(11) + x.told(12), 0);
    }

    private static void goBackNot() {
        sentence("What is so becomes IMAGE i (nothing can be undone then): 1. UNKNOWN, NOT: it was not kept.");
        GloveSigns x = of("s0;h5 0 0;");
        x.day(1);
        due("neither was kept: 0", x.goBack(0), NOT);
        due("neither was kept: 1", x.goBack(1), NOT);
        for (int i : new int[] {MIN, -1, 2, 3, MAX}) {
            due("goBack(" + i + ")", x.goBack(i), UNKNOWN);
        }
        due("can be undone still", x.told(13), 1);
        x.keep(1);
        due("the other was not kept", x.goBack(0), NOT);
        due("the one", x.goBack(1), 1);
        due("and again", x.goBack(1), 1);
        x.keep(0);
        due("both", x.goBack(0), 1);
        GloveSigns y = new GloveSigns();
        due("without a season", y.goBack(0), NOT);
        due("without a season, 2", y.goBack(2), UNKNOWN);
        y.keep(0);
        due("kept without a season", y.goBack(0), 1);
        due("no season still", y.told(0), NONE);
    }

    private static void goBackForgets() {
        sentence("What is so becomes IMAGE i (nothing can be undone then): 1.");
        GloveSigns x = of("s0;h5 0 0;");
        x.keep(0);
        x.day(2);
        due("two", x.told(13), 2);
        x.goBack(0);
        due("none", x.told(13), 0);
        due("undo", x.undo(1), NOT);
        x.day(1);
        due("one since", x.undo(1), 0);
    }
}
