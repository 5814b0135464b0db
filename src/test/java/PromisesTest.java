/** Each promise of the document by hand-reckoned answers: ordinary inputs, the edges it names, wrong inputs. */
public final class PromisesTest {
    private static final int NONE = -1, UNKNOWN = -1000000001, OUTSIDE = -1000000002, NOT = -1000000003, FULL = -1000000004;
    private static final int MIN = Integer.MIN_VALUE, MAX = Integer.MAX_VALUE;
    private static int wrong = 0;
    private static int checked = 0;

    public static void main(String[] args) {
        newObject();
        feed();
        season();
        faults();
        seasonBeginsAnew();
        told();
        comerAndHouse();
        prizeAndCalls();
        sign();
        logged();
        visit();
        sham();
        pardon();
        callsEnd();
        day();
        meanAndStuff();
        drift();
        undo();
        says();
        signs();
        gains();
        clear();
        letInAndRound();
        suitsAndMatch();
        dry();
        meant();
        part();
        book();
        seed();
        images();
        refusalsChangeNothing();
        System.out.println(checked + " answers looked at, " + wrong + " wrong");
        if (wrong != 0) {
            System.exit(1);
        }
    }

    private static void due(String what, long got, long want) {
        checked++;
        if (got != want) {
            wrong++;
            System.out.println(what + " answered " + got + ", due is " + want);
        }
    }

    private static void feedAll(GloveSigns x, String text) {
        for (int i = 0; i < text.length(); i++) {
            x.feed(text.charAt(i));
        }
    }

    private static GloveSigns of(String text) {
        GloveSigns x = new GloveSigns();
        feedAll(x, text);
        x.season();
        due("fault of " + text, x.fault(), NONE);
        return x;
    }

    private static void fault(String text, int number, int place) {
        GloveSigns x = new GloveSigns();
        feedAll(x, text);
        due("season of '" + text + "'", x.season(), -10 - number);
        due("fault of '" + text + "'", x.fault(), place);
        due("letters behind '" + text + "'", x.told(3), 0);
        due("manners behind '" + text + "'", x.told(0), NONE);
    }

    private static void newObject() {
        GloveSigns x = new GloveSigns();
        int[] told = {NONE, 0, 0, 0, 0, 0, 0, NONE, NONE, 0, 0, 0, 0, 0};
        for (int what = 0; what < told.length; what++) {
            due("new told " + what, x.told(what), told[what]);
        }
        due("new fault", x.fault(), NONE);
        due("new comer", x.comer(0, 0), UNKNOWN);
        due("new house", x.house(0, 0), UNKNOWN);
        due("new prize", x.prize(0, 0), UNKNOWN);
        due("new calls", x.calls(0, 0), UNKNOWN);
        due("new sign", x.sign(0, 0), NOT);
        due("new logged", x.logged(0, 0), NONE);
        due("new visit", x.visit(0, 0, 0), UNKNOWN);
        due("new day", x.day(1), NOT);
        due("new mean", x.mean(0, 0), UNKNOWN);
        due("new stuff", x.stuff(0, 0), UNKNOWN);
        due("new pardon", x.pardon(0, 0), UNKNOWN);
        due("new drift", x.drift(1), NOT);
        due("new undo", x.undo(1), NOT);
        due("new says", x.says(0, 0, 0, 0), UNKNOWN);
        due("new signs", x.signs(0, 0, 0), UNKNOWN);
        due("new gains", x.gains(0, 0), UNKNOWN);
        due("new clear", x.clear(0, 0), NOT);
        due("new letIn", x.letIn(0, 0), UNKNOWN);
        due("new round", x.round(0, 0), UNKNOWN);
        due("new suits", x.suits(0, 0), UNKNOWN);
        due("new couldBe", x.couldBe(0), NOT);
        due("new part", x.part(), NOT);
        due("new write", x.write(0, 0), UNKNOWN);
        due("new judge", x.judge(), NONE);
        due("new tear", x.tear(), 0);
        due("new seed", x.seed(0), 0);
        due("new goBack", x.goBack(0), NOT);
        due("meant without a season", x.meant(0, 1), 1);
        due("keep without a season", x.keep(0), 1);
        due("goBack without a season", x.goBack(0), 1);
        due("manners still", x.told(0), NONE);
    }

    private static void feed() {
        GloveSigns x = new GloveSigns();
        due("feed -1", x.feed(-1), OUTSIDE);
        due("feed 256", x.feed(256), OUTSIDE);
        due("feed MIN", x.feed(MIN), OUTSIDE);
        due("feed 0", x.feed(0), 1);
        due("feed 255", x.feed(255), 2);
        for (int i = 3; i <= 240; i++) {
            due("feed", x.feed(32), i);
        }
        due("feed full", x.feed(32), FULL);
        due("feed outside, full", x.feed(256), OUTSIDE);
        due("letters", x.told(3), 240);
        due("season of it", x.season(), -11);
        due("fault of it", x.fault(), 0);
        due("feed again", x.feed(32), 1);
    }

    private static void season() {
        GloveSigns x = new GloveSigns();
        feedAll(x, "  s 2 ; h 000 40 9 , 008;c9 0 7 ;c0 9 0; ");
        due("season", x.season(), 2);
        due("manners", x.told(0), 2);
        due("houses", x.told(2), 1);
        due("prize 0", x.prize(0, 0), 9);
        due("prize 1", x.prize(0, 1), 8);
        due("prize not told", x.prize(0, 2), 0);
        due("no fault", x.fault(), NONE);
        due("season of an empty text", x.season(), 0);
        due("no season", x.told(0), NONE);
        due("no comers", x.told(1), 0);
        due("no houses", x.told(2), 0);
        due("sign then", x.sign(0, 0), NOT);
        feedAll(x, "s1;");
        due("manners alone", x.season(), 0);
        due("manners 1", x.told(0), 1);
        due("drift of nobody", x.drift(2), 2);
        due("no draws then", x.seed(0), 0);
        feedAll(x, "  ");
        due("season of blanks", x.season(), 0);
        due("no season by blanks", x.told(0), NONE);
        feedAll(x, "s0;c1 1 1;c1 1 1;c1 1 1;c1 1 1;c1 1 1;c1 1 1;h1 1 1;h1 1 1;h1 1 1;h1 1 1;h1 1 1;h1 1 1,2,3,4,5,6,7,8;");
        due("six of each", x.season(), 6);
        due("eight prizes", x.prize(5, 7), 8);
        feedAll(x, "s0;c1 1 8;");
        due("season with a fault", x.season(), -12);
        due("its fault", x.fault(), 8);
        due("all as it was", x.told(2), 6);
        due("prizes as they were", x.prize(5, 7), 8);
        feedAll(x, "s0;h1 1 1;h1 1 1;h1 1 1;h1 1 1;h1 1 1;h1 1 3;");
        due("behind a fault", x.season(), 0);
        due("no fault any more", x.fault(), NONE);
        due("no prizes of an earlier text", x.prize(5, 7), 0);
    }

    private static void faults() {
        fault("c1 1 1;", 1, 0);
        fault("h1 1 1;", 1, 0);
        fault(" x", 1, 1);
        fault("7", 1, 0);
        fault("12345", 1, 0);
        fault(";", 1, 0);
        fault("S0;", 1, 0);
        fault("\t", 1, 0);
        fault("s", 1, 1);
        fault("s  ", 1, 3);
        fault("s0", 1, 2);
        fault("s0 ", 1, 3);
        fault("s;", 1, 1);
        fault("s0 0;", 1, 3);
        fault("s00 1000;", 1, 4);
        fault("s3;", 2, 1);
        fault("s 003;", 2, 2);
        fault("s0000;", 2, 1);
        fault("s99999999999999999999;", 2, 1);
        fault("s4294967296;", 2, 1);
        fault("s0;;", 1, 3);
        fault("s0;1", 1, 3);
        fault("s0; s", 3, 4);
        fault("s0;c1 1 1;s1;", 3, 10);
        fault("s0,", 1, 2);
        fault("sc", 1, 1);
        fault("ss", 1, 1);
        fault("s0;c1;", 1, 5);
        fault("s0;c1 1;", 1, 7);
        fault("s0;c1 1 1", 1, 9);
        fault("s0;c1 1 1 1;", 1, 10);
        fault("s0;c1,1", 1, 5);
        fault("s0;c111;", 2, 4);
        fault("s0;c10 1 1;", 2, 4);
        fault("s0;c9 10 1;", 2, 6);
        fault("s0;c9 9 8;", 2, 8);
        fault("s0;c9 9 0001;", 2, 8);
        fault("s0;h41 1 1;", 2, 4);
        fault("s0;h40 41 1;", 2, 7);
        fault("s0;h40 40 10;", 2, 10);
        fault("s0;h40 40;", 1, 9);
        fault("s0;h40 40,", 1, 9);
        fault("s0;h40 40 ;", 1, 10);
        fault("s0;h1 1 1,;", 1, 10);
        fault("s0;h1 1 1 ,  ", 1, 13);
        fault("s0;h1 1 1 1;", 1, 10);
        fault("s0;h1 1 1,2,3,4,5,6,7,10;", 2, 22);
        fault("s0;h1 1 1,2,3,4,5,6,7,8,;", 1, 23);
        fault("s0;h1 1 1,2,3,4,5,6,7,8 ,9;", 1, 24);
        fault("s0;h1 1 1,2,3,4,5,6,7,8", 1, 23);
        String six = "s0;" + "c1 1 1;".repeat(6) + "h1 1 1;".repeat(6);
        fault(six + "c9999", 3, six.length());
        fault(six + " h", 3, six.length() + 1);
        fault(six + "x", 1, six.length());
        String blanks = " ".repeat(237);
        fault("s" + blanks + "00", 1, 240);
        fault("s0;" + blanks.substring(1) + "s", 3, 239);
        due("a full text", of("s0;" + blanks).told(0), 0);
        fault("s0;" + (char) 233, 1, 3);
        fault("s0" + (char) 0 + ";", 1, 2);
    }

    private static void seasonBeginsAnew() {
        GloveSigns x = of("s0;c9 9 0;h0 40 9;");
        x.seed(5);
        x.visit(0, 0, 0);
        x.day(2);
        x.visit(0, 0, 0);
        x.meant(0, 0);
        x.write(0, 1);
        x.keep(0);
        x.mean(0, 3);
        feedAll(x, "s0;s");
        due("a fault", x.season(), -13);
        due("days stay", x.told(4), 2);
        due("meant stays", x.told(11), 1);
        due("the book stays", x.told(12), 1);
        due("undone stays", x.told(13), 1);
        due("the image stays", x.goBack(0), 1);
        x.keep(1);
        x.visit(0, 0, 0);
        due("a sham", x.comer(0, 3), 1);
        due("to be undone", x.told(13), 1);
        feedAll(x, "s0;c9 9 0;h0 40 9;");
        due("season anew", x.season(), 1);
        int[] told = {0, 1, 1, 0, 0, 0, 0, NONE, 0, 48, 0, 0, 0, 0};
        for (int what = 0; what < told.length; what++) {
            due("anew told " + what, x.told(what), told[what]);
        }
        due("no sham", x.comer(0, 3), 0);
        due("no image 0", x.goBack(0), NOT);
        due("no image 1", x.goBack(1), NOT);
        due("the seed stays", x.seed(0), 5);
        x.visit(0, 0, 0);
        x.visit(0, 0, 0);
        due("two visits are no sham", x.comer(0, 3), 0);
    }

    private static void told() {
        GloveSigns x = of("s2;c9 0 0;c0 0 0;h5 40 0;h9 40 0;h9 40 0;");
        due("told -1", x.told(-1), OUTSIDE);
        due("told 14", x.told(14), OUTSIDE);
        due("told MAX", x.told(MAX), OUTSIDE);
        due("coldest is the least of like ones", x.told(8), 1);
        due("said by manners 2", x.told(9), 30);
        due("nobody was let in", x.told(7), NONE);
        x.visit(0, 2, 0);
        x.visit(0, 1, 0);
        x.visit(1, 0, 0);
        due("open today", x.told(5), 6);
        due("calls of all", x.told(6), 2);
        due("welcome is the least of like ones", x.told(7), 1);
        x.visit(0, 2, 16);
        due("welcome", x.told(7), 2);
        due("log", x.told(10), 4);
        due("can be undone", x.told(13), 4);
        x.day(1);
        due("open today, next day", x.told(5), 0);
        due("days", x.told(4), 1);
        x.feed('s');
        due("letters", x.told(3), 1);
        x.meant(0, 0);
        x.write(0, 0);
        x.write(0, 0);
        due("meant", x.told(11), 1);
        due("entries", x.told(12), 2);
        due("said by manners 0", of("s0;").told(9), 48);
        due("said by manners 1", of("s1;").told(9), 32);
        due("coldest without houses", of("s1;").told(8), NONE);
    }

    private static void comerAndHouse() {
        GloveSigns x = of("s0;c1 2 3;h4 5 6;");
        int[] comer = {1, 2, 3, 0, 0};
        for (int what = 0; what < comer.length; what++) {
            due("comer " + what, x.comer(0, what), comer[what]);
        }
        int[] house = {4, 5, 0, 0};
        for (int what = 0; what < house.length; what++) {
            due("house " + what, x.house(0, what), house[what]);
        }
        due("comer 1", x.comer(1, 0), UNKNOWN);
        due("comer -1", x.comer(-1, 0), UNKNOWN);
        due("comer 1, wrong what", x.comer(1, 9), UNKNOWN);
        due("comer what -1", x.comer(0, -1), OUTSIDE);
        due("comer what 5", x.comer(0, 5), OUTSIDE);
        due("house 1", x.house(1, 0), UNKNOWN);
        due("house MIN", x.house(MIN, 0), UNKNOWN);
        due("house what 4", x.house(0, 4), OUTSIDE);
        due("house what -1", x.house(0, -1), OUTSIDE);
    }

    private static void prizeAndCalls() {
        GloveSigns x = of("s0;c9 0 0;h0 40 1,2,3,4,5,6,7,8;h0 40 9;");
        for (int m = 0; m < 8; m++) {
            due("prize " + m, x.prize(0, m), m + 1);
            due("prize of the other " + m, x.prize(1, m), m == 0 ? 9 : 0);
        }
        due("prize 8", x.prize(0, 8), OUTSIDE);
        due("prize -1", x.prize(0, -1), OUTSIDE);
        due("prize of house 2", x.prize(2, 8), UNKNOWN);
        due("prize of house -1", x.prize(-1, 0), UNKNOWN);
        x.visit(0, 1, 0);
        due("calls", x.calls(0, 1), 1);
        due("calls elsewhere", x.calls(0, 0), 0);
        due("calls of house", x.house(1, 3), 1);
        due("calls of no comer", x.calls(1, 0), UNKNOWN);
        due("calls of no house", x.calls(0, 2), UNKNOWN);
        due("calls of house -1", x.calls(0, -1), UNKNOWN);
    }

    private static void sign() {
        GloveSigns x = of("s1;");
        int[] means = {0, 1, 1, 2, 3, 4, 4, 5, 1, 2, 2, 3, 4, 5, 5, 6};
        for (int g = 0; g < 48; g++) {
            due("meaning of " + g, x.sign(g, 0), g < 32 ? means[g % 16] : 7);
            due("manners 1 say " + g, x.sign(g, 1), g % 8 < 4 || g / 16 == 1 ? 1 : 0);
        }
        GloveSigns y = of("s2;");
        int[] mumbled = {3, 7, 11, 15, 19, 23, 27, 31, 35, 39, 40, 41, 42, 43, 44, 45, 46, 47};
        int next = 0;
        for (int g = 0; g < 48; g++) {
            boolean is = next < mumbled.length && mumbled[next] == g;
            next += is ? 1 : 0;
            due("manners 2 say " + g, y.sign(g, 1), is ? 0 : 1);
            due("manners 0 say " + g, of("s0;").sign(g, 1), 1);
        }
        due("sign 48", x.sign(48, 0), OUTSIDE);
        due("sign -1", x.sign(-1, 0), OUTSIDE);
        due("sign what 2", x.sign(0, 2), OUTSIDE);
        due("sign what -1", x.sign(0, -1), OUTSIDE);
        due("sign outside, no season", new GloveSigns().sign(48, 0), OUTSIDE);
    }

    private static void logged() {
        GloveSigns x = of("s0;c9 0 0;c0 0 0;h5 9 0;h9 40 0;");
        x.visit(1, 0, 7);
        x.day(3);
        x.visit(0, 1, 47);
        int[] latest = {3, 0, 1, 47, 1};
        int[] before = {0, 1, 0, 7, 0};
        for (int what = 0; what < 5; what++) {
            due("latest " + what, x.logged(0, what), latest[what]);
            due("before " + what, x.logged(1, what), before[what]);
            due("none " + what, x.logged(2, what), NONE);
            due("none -1 " + what, x.logged(-1, what), NONE);
        }
        due("logged what 5", x.logged(0, 5), OUTSIDE);
        due("logged what -1", x.logged(99, -1), OUTSIDE);
        due("logged MAX", x.logged(MAX, 0), NONE);
        due("logged MIN", x.logged(MIN, 0), NONE);
        for (int g = 0; g < 45; g++) {
            x.visit(0, 0, g);
        }
        due("log is full", x.told(10), 20);
        due("latest sign", x.logged(0, 3), 44);
        due("oldest sign", x.logged(19, 3), 25);
        due("older", x.logged(20, 3), NONE);
        for (int i = 0; i < 20; i++) {
            due("sign " + i, x.logged(i, 3), 44 - i);
        }
        x.visit(0, 0, 47);
        due("the oldest is gone", x.logged(19, 3), 26);
        x.undo(1);
        due("and back", x.logged(19, 3), 25);
    }

    private static void visit() {
        GloveSigns x = of("s1;c5 2 0;h13 19 4,2;h30 10 0;h7 40 0;");
        due("hears 19 of F 19", x.visit(0, 0, 0), 2);
        due("hears 13 of L 13", x.visit(0, 0, 1), 1);
        due("hears 7", x.visit(0, 0, 3), 0);
        due("mumbled: 0 at least", x.says(0, 0, 4, 0), 0);
        due("FERN whatever L", x.says(0, 1, 0, 1), 0);
        x.stuff(0, 4);
        due("hears 9 of F 10", x.visit(0, 1, 0), 0);
        x.stuff(0, 5);
        due("hears 10 of F 10, L 30", x.visit(0, 1, 0), 2);
        due("hears 10 of L 7", x.visit(0, 2, 0), 1);
        due("calls at 0", x.calls(0, 0), 2);
        due("calls at 1", x.calls(0, 1), 1);
        due("open", x.told(5), 7);
        due("visit of no comer", x.visit(1, 0, 99), UNKNOWN);
        due("visit of no house", x.visit(0, 3, 0), UNKNOWN);
        due("visit sign 48", x.visit(0, 0, 48), OUTSIDE);
        due("visit sign -1", x.visit(0, 0, -1), OUTSIDE);
        due("log has no refused one", x.told(10), 6);
    }

    private static void sham() {
        GloveSigns x = of("s0;c9 4 0;c9 5 0;h0 40 0;h0 40 0;");
        for (int i = 0; i < 5; i++) {
            x.visit(0, 0, 0);
        }
        due("by 4 no sham", x.comer(0, 3), 0);
        x.stuff(0, 5);
        x.visit(0, 0, 0);
        due("let in so once", x.comer(0, 3), 0);
        x.visit(0, 0, 0);
        x.stuff(0, 0);
        x.visit(0, 0, 0);
        due("let in so twice", x.comer(0, 3), 0);
        x.stuff(0, 9);
        due("hears the stuffing", x.says(0, 0, 0, 0), 18);
        x.visit(0, 0, 0);
        due("let in so three times", x.comer(0, 3), 1);
        due("hears no stuffing", x.says(0, 0, 0, 0), 9);
        due("hears it elsewhere", x.says(0, 1, 0, 0), 18);
        x.stuff(0, 0);
        due("a sham stays one", x.comer(0, 3), 1);
        x.visit(1, 1, 0);
        x.visit(1, 0, 0);
        x.visit(1, 1, 0);
        x.visit(1, 0, 0);
        due("counted by house", x.comer(1, 3), 0);
        x.visit(1, 1, 0);
        due("a sham at house 1", x.comer(1, 3), 2);
        GloveSigns y = of("s0;c0 9 0;h10 40 0,9;");
        for (int i = 0; i < 4; i++) {
            due("out", y.visit(0, 0, 0), 0);
        }
        due("who is not let in is no sham", y.comer(0, 3), 0);
    }

    private static void pardon() {
        GloveSigns x = of("s0;c9 5 0;h0 40 0;h0 40 0;");
        due("no sham yet", x.pardon(0, 0), NOT);
        for (int i = 0; i < 4; i++) {
            x.visit(0, 0, 0);
        }
        x.visit(0, 1, 0);
        due("pardon of no comer", x.pardon(1, 0), UNKNOWN);
        due("pardon of no house", x.pardon(0, 2), UNKNOWN);
        due("no sham there", x.pardon(0, 1), NOT);
        due("pardoned", x.pardon(0, 0), 4);
        due("calls", x.calls(0, 0), 0);
        due("calls elsewhere", x.calls(0, 1), 1);
        due("sham", x.comer(0, 3), 0);
        due("again", x.pardon(0, 0), NOT);
        due("hears the stuffing again", x.says(0, 0, 0, 0), 14);
        x.visit(0, 0, 0);
        x.visit(0, 0, 0);
        due("counted anew", x.comer(0, 3), 0);
        x.visit(0, 0, 0);
        due("a sham again", x.comer(0, 3), 1);
        due("undo to ahead of the pardon", x.undo(4), 0);
        due("calls as ahead", x.calls(0, 0), 4);
        due("calls elsewhere as ahead", x.calls(0, 1), 1);
        due("sham as ahead", x.comer(0, 3), 1);
    }

    private static void callsEnd() {
        GloveSigns x = of("s0;c9 0 0;h0 0 0;");
        for (int i = 0; i < 16; i++) {
            x.drift(30);
        }
        due("960 calls", x.calls(0, 0), 960);
        x.drift(19);
        due("998 calls", x.calls(0, 0), 998);
        x.drift(1);
        due("999 calls at most", x.calls(0, 0), 999);
        due("had FERN still", x.visit(0, 0, 0), 2);
        due("calls of all", x.told(6), 999);
    }

    private static void day() {
        GloveSigns x = of("s0;c9 0 0;h0 40 0;h40 0 0;h1 40 0;h40 40 0;");
        x.visit(0, 0, 0);
        x.visit(0, 1, 0);
        due("day", x.day(1), 1);
        int[] first = {1, 40, 0, 39};
        for (int h = 0; h < 4; h++) {
            due("L " + h, x.house(h, 0), first[h]);
        }
        due("days", x.day(30), 31);
        int[] then = {0, 10, 0, 9};
        for (int h = 0; h < 4; h++) {
            due("L later " + h, x.house(h, 0), then[h]);
        }
        due("F stays", x.house(1, 1), 0);
        due("day 0", x.day(0), OUTSIDE);
        due("day 31", x.day(31), OUTSIDE);
        due("day MIN", x.day(MIN), OUTSIDE);
        due("day outside, no season", new GloveSigns().day(31), OUTSIDE);
        due("many days are many deeds", x.told(13), 30);
    }

    private static void meanAndStuff() {
        GloveSigns x = of("s0;c1 2 3;h0 40 0;");
        due("mean", x.mean(0, 7), 3);
        due("mean again", x.mean(0, 0), 7);
        due("means", x.comer(0, 2), 0);
        due("mean 8", x.mean(0, 8), OUTSIDE);
        due("mean -1", x.mean(0, -1), OUTSIDE);
        due("mean of no comer", x.mean(1, 8), UNKNOWN);
        due("stuff", x.stuff(0, 9), 2);
        due("stuff again", x.stuff(0, 0), 9);
        due("stuffs", x.comer(0, 1), 0);
        due("stuff 10", x.stuff(0, 10), OUTSIDE);
        due("stuff -1", x.stuff(0, -1), OUTSIDE);
        due("stuff of no comer", x.stuff(-1, 10), UNKNOWN);
        due("four deeds", x.told(13), 4);
        due("undone", x.undo(3), 0);
        due("means as ahead", x.comer(0, 2), 7);
        due("stuffs as ahead", x.comer(0, 1), 2);
        due("the like is a deed too", x.mean(0, 7), 7);
        due("two deeds", x.told(13), 2);
    }

    private static void drift() {
        GloveSigns x = of("s0;c9 0 0;c8 0 0;c7 0 0;h0 40 0;h0 40 0;");
        x.seed(1);
        due("drift", x.drift(2), 2);
        long seed = 1;
        int[][] draws = new int[4][3];
        for (int[] row : draws) {
            for (int i = 0; i < 3; i++) {
                seed = (seed * 1103515245L + 12345L) % (1L << 31);
                row[i] = (int) (seed / 65536 % (i == 0 ? 3 : i == 1 ? 2 : 48));
            }
        }
        for (int i = 0; i < 4; i++) {
            due("day of draw " + i, x.logged(3 - i, 0), i / 2);
            for (int k = 0; k < 3; k++) {
                due("draw " + i + " " + k, x.logged(3 - i, k + 1), draws[i][k]);
            }
        }
        due("a day by draws is one deed", x.told(13), 2);
        due("undo", x.undo(1), 1);
        due("log as ahead", x.told(10), 2);
        due("the seed stays", x.seed(0), seed);
        due("drift 0", x.drift(0), OUTSIDE);
        due("drift 31", x.drift(31), OUTSIDE);
        due("drift outside, no season", new GloveSigns().drift(0), OUTSIDE);
        GloveSigns y = of("s0;c9 0 0;");
        y.drift(3);
        due("no draws without houses", y.seed(0), 0);
        due("days without houses", y.told(4), 3);
    }

    private static void undo() {
        GloveSigns x = of("s0;c9 5 0;h3 40 0;");
        due("undo 0", x.undo(0), OUTSIDE);
        due("undo 31", x.undo(31), OUTSIDE);
        due("undo of nothing", x.undo(1), NOT);
        x.day(1);
        x.visit(0, 0, 0);
        x.visit(0, 0, 1);
        x.visit(0, 0, 2);
        x.day(1);
        due("undo too many", x.undo(6), NOT);
        due("undo", x.undo(2), 1);
        due("sham undone", x.comer(0, 3), 0);
        due("calls undone", x.calls(0, 0), 2);
        due("today undone", x.told(5), 1);
        due("log undone", x.logged(0, 3), 1);
        due("log undone, before", x.logged(1, 3), 0);
        due("log size undone", x.told(10), 2);
        due("L undone", x.house(0, 0), 2);
        x.visit(0, 0, 2);
        due("counted on", x.comer(0, 3), 1);
        x.undo(2);
        x.visit(0, 0, 4);
        due("counted as ahead", x.comer(0, 3), 0);
        x.visit(0, 0, 4);
        x.meant(0, 1);
        x.write(0, 2);
        due("undo all", x.undo(4), 0);
        due("L at first", x.house(0, 0), 3);
        due("meant stays", x.told(11), 1);
        due("the book stays", x.told(12), 1);
        for (int i = 0; i < 35; i++) {
            x.mean(0, i % 8);
        }
        due("30 at most", x.told(13), 30);
        due("undo 30", x.undo(30), 0);
        due("as ahead of the sixth", x.comer(0, 2), 4);
        due("no more", x.undo(1), NOT);
    }

    private static void says() {
        GloveSigns x = of("s1;c4 3 0;h10 13 2,1;");
        due("hears", x.says(0, 0, 0, 0), 13);
        due("answer", x.says(0, 0, 0, 1), 2);
        due("had up", x.says(0, 0, 1, 1), 1);
        due("hears less", x.says(0, 0, 3, 0), 7);
        due("out", x.says(0, 0, 3, 1), 0);
        due("nothing changes", x.told(10), 0);
        due("says of no comer", x.says(1, 0, 0, 0), UNKNOWN);
        due("says of no house", x.says(0, 1, 48, 9), UNKNOWN);
        due("says sign 48", x.says(0, 0, 48, 0), OUTSIDE);
        due("says sign -1", x.says(0, 0, -1, 0), OUTSIDE);
        due("says what 2", x.says(0, 0, 0, 2), OUTSIDE);
        due("says what -1", x.says(0, 0, 0, -1), OUTSIDE);
    }

    private static void signs() {
        GloveSigns x = of("s2;c0 0 3;h9 40 0,0,0,3;h40 40 9;h3 40 0,0,0,0,0,0,0,5;");
        due("by meaning 3: 4, 11 less, 20, 27 less", x.signs(0, 0, 0), 2);
        due("plainest", x.signs(0, 0, 1), 4);
        due("honest", x.signs(0, 0, 2), 4);
        due("none", x.signs(0, 1, 0), 0);
        due("no plainest", x.signs(0, 1, 1), NONE);
        due("no honest", x.signs(0, 1, 2), NONE);
        due("with a card, mumbled too", x.signs(0, 2, 0), 16);
        due("plainest with a card", x.signs(0, 2, 1), 32);
        due("no honest there", x.signs(0, 2, 2), NONE);
        x.mean(0, 7);
        due("honest with a card", x.signs(0, 2, 2), 32);
        GloveSigns y = of("s0;c0 0 0;h9 40 0,0,3,0,3;");
        due("of like ones the least: 3, 5, 6, 9, 10, 12, 19 ..", y.signs(0, 0, 1), 3);
        GloveSigns z = of("s1;c0 0 4;h3 40 0,0,0,0,9;");
        due("fewer parts than the least SIGN", z.signs(0, 0, 1), 5);
        due("honest must be said", z.signs(0, 0, 2), 21);
        GloveSigns w = of("s0;c0 0 0;h9 40 0,0,0,0,0,3,0,3;h9 40 3;h0 40 0;");
        due("one part is plainer than three", w.signs(0, 0, 1), 32);
        due("by 0 and 16", w.signs(0, 1, 0), 2);
        due("the plainest of all", w.signs(0, 1, 1), 0);
        due("honest by 0", w.signs(0, 1, 2), 0);
        due("by all", w.signs(0, 2, 0), 48);
        due("signs what 3", x.signs(0, 0, 3), OUTSIDE);
        due("signs what -1", x.signs(0, 0, -1), OUTSIDE);
        due("signs of no comer", x.signs(1, 0, 3), UNKNOWN);
        due("signs of no house", x.signs(0, 3, 0), UNKNOWN);
    }

    private static void gains() {
        GloveSigns x = of("s0;c4 6 0;c9 0 0;h0 40 9;");
        due("gains", x.gains(0, 0), 6);
        due("gains of one that does not stuff", x.gains(1, 0), 0);
        for (int i = 0; i < 3; i++) {
            x.visit(0, 0, 0);
        }
        due("gains of a sham", x.gains(0, 0), 0);
        due("gains of no comer", x.gains(2, 0), UNKNOWN);
        due("gains of no house", x.gains(0, 1), UNKNOWN);
    }

    private static void clear() {
        int[][] counts = {{2, 6, 6, 4, 6, 6, 2, 16}, {2, 6, 6, 3, 3, 3, 1, 8}, {2, 6, 4, 2, 6, 4, 0, 6}};
        int[][] least = {{0, 1, 3, 4, 5, 7, 15, 32}, {0, 1, 3, 11, 21, 23, 31, 32}, {0, 1, 9, 4, 5, 13, NONE, 32}};
        for (int manners = 0; manners < 3; manners++) {
            GloveSigns x = of("s" + manners + ";");
            for (int m = 0; m < 8; m++) {
                due("clear " + manners + " " + m, x.clear(m, 0), counts[manners][m]);
                due("least " + manners + " " + m, x.clear(m, 1), least[manners][m]);
            }
        }
        GloveSigns x = of("s0;");
        due("clear 8", x.clear(8, 0), OUTSIDE);
        due("clear -1", x.clear(-1, 0), OUTSIDE);
        due("clear what 2", x.clear(0, 2), OUTSIDE);
        due("clear what -1", x.clear(0, -1), OUTSIDE);
        due("clear outside, no season", new GloveSigns().clear(8, 0), OUTSIDE);
    }

    private static void letInAndRound() {
        GloveSigns x = of("s0;c3 0 0;h6 40 0,1;h6 40 0,1,1;h6 40 0,0,1;h40 40 0;h0 40 0;");
        due("let in by 0", x.letIn(0, 0), 16);
        due("let in by 1", x.letIn(0, 1), 19);
        due("let in by 3", x.letIn(0, 3), 22);
        due("round", x.round(0, 0), 3);
        due("by the least of like ones", x.round(0, 1), 1);
        due("letIn of no comer", x.letIn(1, 99), UNKNOWN);
        due("letIn sign 48", x.letIn(0, 48), OUTSIDE);
        due("letIn sign -1", x.letIn(0, -1), OUTSIDE);
        due("round of no comer", x.round(1, 9), UNKNOWN);
        due("round what 2", x.round(0, 2), OUTSIDE);
        due("round what -1", x.round(0, -1), OUTSIDE);
        GloveSigns y = of("s0;c3 0 0;");
        due("let in without houses", y.letIn(0, 5), 0);
        due("round without houses", y.round(0, 0), 0);
        due("sign of it", y.round(0, 1), 0);
    }

    private static void suitsAndMatch() {
        GloveSigns x = of("s2;c1 0 6;c5 0 0;c5 0 0;c9 9 1;h40 40 2,0;h40 40 2,1;h0 0 0,0,0,0,0,0,9;");
        due("no such sign", x.suits(0, 2), NONE);
        due("suits", x.suits(1, 0), 11);
        due("suits the same", x.suits(1, 1), 11);
        due("suits with stuffing", x.suits(3, 1), 21);
        int[] houses = {NONE, 0, 2, 1};
        for (int c = 0; c < 4; c++) {
            due("house matched " + c, x.comer(c, 4), houses[c]);
        }
        int[] comers = {1, 3, 2};
        for (int h = 0; h < 3; h++) {
            due("comer matched " + h, x.house(h, 2), comers[h]);
        }
        due("suits of no comer", x.suits(4, 0), UNKNOWN);
        due("suits of no house", x.suits(0, 3), UNKNOWN);
        GloveSigns y = of("s0;c0 0 0;c0 0 0;c1 0 0;h9 9 0;h9 9 0;");
        due("suits 0 is a suit", y.suits(0, 0), 0);
        due("the third comes first at 0", y.comer(2, 4), 0);
        due("the first goes on", y.comer(0, 4), 1);
        y.stuff(1, 9);
        due("the second is first now", y.comer(1, 4), 0);
        due("the third goes on", y.comer(2, 4), 1);
        due("all refused the first", y.comer(0, 4), NONE);
        y.undo(1);
        due("all refused the second", y.comer(1, 4), NONE);
        GloveSigns z = of("s0;c0 0 0;h9 9 0;h9 9 0;");
        due("house without a comer", z.house(1, 2), NONE);
        z.mean(0, 1);
        due("matched still", z.house(0, 2), 0);
        due("house matched without comers", of("s0;h9 9 0;").house(0, 2), NONE);
        due("comer matched without houses", of("s0;c9 9 0;").comer(0, 4), NONE);
    }

    private static void dry() {
        GloveSigns x = new GloveSigns();
        due("no days", x.dry(0, 0), 1000000000);
        due("no days by 100", x.dry(0, 100), 1000000000);
        due("one by 0", x.dry(1, 0), 0);
        due("60 by 100", x.dry(60, 100), 1000000000);
        due("one by 37", x.dry(1, 37), 370000000);
        due("cut each day", x.dry(6, 3), 0);
        due("five by 3", x.dry(5, 3), 24);
        due("60 by 99", x.dry(60, 99), 547156620);
        due("n 61", x.dry(61, 0), OUTSIDE);
        due("n -1", x.dry(-1, 0), OUTSIDE);
        due("q 101", x.dry(0, 101), OUTSIDE);
        due("q -1", x.dry(0, -1), OUTSIDE);
    }

    private static void meant() {
        GloveSigns x = of("s2;");
        due("could be any said", x.couldBe(0), 30);
        due("least", x.couldBe(1), 0);
        due("meanings but 6", x.couldBe(2), 191);
        due("part 5", x.meant(5, 0), OUTSIDE);
        due("part -1", x.meant(-1, 0), OUTSIDE);
        due("bit 2", x.meant(3, 2), OUTSIDE);
        due("bit -1", x.meant(3, -1), OUTSIDE);
        due("thumb 3", x.meant(4, 3), OUTSIDE);
        due("finger", x.meant(3, 1), 1);
        due("no card with a finger", x.couldBe(0), 12);
        due("least of these", x.couldBe(1), 8);
        due("meanings 1, 2, 4, 5", x.couldBe(2), 54);
        due("thumb out", x.meant(4, 1), 2);
        due("six of these", x.couldBe(0), 6);
        due("least with thumb out", x.couldBe(1), 24);
        due("thumb with a card", x.meant(4, 2), 3);
        due("none", x.couldBe(0), 0);
        due("no least", x.couldBe(1), NONE);
        due("no meanings", x.couldBe(2), 0);
        x.meant(0, 0);
        x.meant(1, 0);
        due("sixth", x.meant(2, 1), 6);
        due("seventh", x.meant(2, 1), FULL);
        due("seventh, outside", x.meant(2, 2), OUTSIDE);
        due("couldBe what 3", x.couldBe(3), OUTSIDE);
        due("couldBe what -1", x.couldBe(-1), OUTSIDE);
        due("couldBe outside, no season", new GloveSigns().couldBe(3), OUTSIDE);
        due("torn", x.tear(), 6);
        due("torn again", x.tear(), 0);
    }

    private static void part() {
        GloveSigns x = of("s0;");
        due("thirds are better than halves", x.part(), 4);
        x.meant(4, 0);
        due("halves", x.part(), 0);
        x.meant(0, 0);
        due("the next", x.part(), 1);
        x.meant(1, 0);
        x.meant(2, 0);
        due("the last", x.part(), 3);
        x.meant(3, 0);
        due("one is told", x.part(), NONE);
        x.tear();
        x.meant(4, 2);
        due("all have a card", x.part(), 0);
        x.tear();
        x.meant(0, 0);
        x.meant(1, 0);
        x.meant(2, 0);
        x.meant(3, 0);
        due("by the thumb alone", x.part(), 4);
        x.meant(3, 1);
        due("none fits", x.part(), NONE);
        due("a part that leaves most with a card", of("s1;").part(), 0);
        GloveSigns y = of("s2;");
        due("12 of 30 at most are alike by the thumb", y.part(), 4);
    }

    private static void book() {
        GloveSigns x = of("s0;h5 0 0;h7 0 0;");
        due("judge of no book", x.judge(), NONE);
        due("write", x.write(1, 7), 1);
        due("write of no house", x.write(2, 41), UNKNOWN);
        due("write 41", x.write(1, 41), OUTSIDE);
        due("write -1", x.write(1, -1), OUTSIDE);
        due("right", x.judge(), NONE);
        x.write(0, 5);
        x.write(0, 4);
        x.write(1, 40);
        due("the first that is otherwise", x.judge(), 2);
        x.day(1);
        due("otherwise now", x.judge(), 0);
        x.undo(1);
        due("as it was", x.judge(), 2);
        for (int i = 5; i <= 20; i++) {
            due("write on", x.write(0, 0), i);
        }
        due("full", x.write(0, 0), FULL);
        due("full, outside", x.write(0, 41), OUTSIDE);
        x.meant(0, 0);
        due("torn", x.tear(), 21);
        due("no entries", x.told(12), 0);
        due("nothing meant", x.told(11), 0);
        due("nothing wrong", x.judge(), NONE);
    }

    private static void seed() {
        GloveSigns x = new GloveSigns();
        due("seed MAX", x.seed(MAX), 0);
        due("seed -1", x.seed(-1), OUTSIDE);
        due("seed MIN", x.seed(MIN), OUTSIDE);
        due("seed was", x.seed(3), MAX);
        due("seed was 3", x.seed(0), 3);
    }

    private static void images() {
        GloveSigns x = of("s0;c9 5 1;h3 40 0;");
        x.seed(7);
        x.visit(0, 0, 0);
        x.visit(0, 0, 0);
        x.meant(0, 0);
        due("keep 2", x.keep(2), UNKNOWN);
        due("keep -1", x.keep(-1), UNKNOWN);
        due("two deeds", x.told(13), 2);
        due("keep", x.keep(1), 1);
        due("nothing can be undone", x.told(13), 0);
        due("the other was not kept", x.goBack(0), NOT);
        due("goBack 2", x.goBack(2), UNKNOWN);
        due("goBack -1", x.goBack(-1), UNKNOWN);
        x.visit(0, 0, 9);
        x.mean(0, 2);
        x.stuff(0, 3);
        x.day(4);
        x.seed(8);
        x.meant(1, 0);
        x.keep(0);
        x.day(1);
        due("goBack", x.goBack(1), 1);
        due("nothing to undo", x.told(13), 0);
        due("days", x.told(4), 0);
        due("calls", x.calls(0, 0), 2);
        due("sham", x.comer(0, 3), 0);
        due("open today", x.told(5), 1);
        due("means", x.comer(0, 2), 1);
        due("stuffs", x.comer(0, 1), 5);
        due("L", x.house(0, 0), 3);
        due("log", x.told(10), 2);
        due("meant stays", x.told(11), 2);
        x.visit(0, 0, 0);
        due("counted on", x.comer(0, 3), 1);
        due("log kept", x.logged(1, 3), 0);
        due("the seed", x.seed(1), 7);
        due("the other", x.goBack(0), 1);
        due("its days", x.told(4), 4);
        due("its seed", x.seed(1), 8);
        due("back again", x.goBack(1), 1);
        due("the image was not touched", x.comer(0, 3), 0);
    }

    private static void refusalsChangeNothing() {
        GloveSigns x = of("s0;c9 5 1;h3 40 0;");
        x.visit(0, 0, 0);
        x.keep(0);
        x.visit(0, 0, 0);
        x.visit(9, 0, 0);
        x.visit(0, 0, 48);
        x.day(0);
        x.mean(0, 8);
        x.stuff(0, 10);
        x.pardon(0, 0);
        x.drift(31);
        x.undo(2);
        x.goBack(1);
        x.meant(4, 3);
        x.write(0, 41);
        x.seed(-1);
        x.feed(256);
        int[] told = {0, 1, 1, 0, 0, 1, 2, 0, 0, 48, 2, 0, 0, 1};
        for (int what = 0; what < told.length; what++) {
            due("unchanged told " + what, x.told(what), told[what]);
        }
        due("unchanged seed", x.seed(0), 0);
    }
}
