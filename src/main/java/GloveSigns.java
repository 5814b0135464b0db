import java.util.Arrays;

/**
 * Gloves that go first: comers, houses, and the signs that are laid on hall tables.
 * The promises are told in DOC.md; all rows are made once, in the constructor, so that no call makes an object.
 */
public final class GloveSigns {
    public static final int NONE = -1, UNKNOWN = -1000000001, OUTSIDE = -1000000002, NOT = -1000000003, FULL = -1000000004;

    private static final int MOST_LETTERS = 240;
    private static final int MOST_COMERS = 6;
    private static final int MOST_HOUSES = 6;
    private static final int MOST_LOGGED = 20;
    private static final int MOST_SEEN = 6;
    private static final int MOST_ENTRIES = 20;
    private static final int MOST_UNDONE = 30;
    private static final int MOST_CALLS = 999;
    private static final int MOST_DAYS_AT_ONCE = 30;
    private static final int LAST_DAY = 90000;

    private static final int GREATEST_WORTH = 9;
    private static final int GREATEST_STUFFING = 9;
    private static final int GREATEST_PRIZE = 9;
    private static final int GREATEST_MANNERS = 2;
    private static final int HARDEST = 40;

    private static final int SIGNS = 48;
    private static final int MEANINGS = 8;
    private static final int PARTS = 5;
    private static final int LEFT_BIT = 1;
    private static final int BACK_BIT = 2;
    private static final int CROSSED_BIT = 4;
    private static final int FINGER_BIT = 8;
    private static final int THUMB = 4;
    private static final int THUMB_OUT = 1;
    private static final int CARD = 2;

    private static final int OUT = 0;
    private static final int HAD_UP = 1;
    private static final int FERN = 2;

    private static final int BILLION = 1000000000;

    private final Text text;
    private final Season draft;
    private final Season theSeason;
    private final Hall hall;
    private final Trial trial;
    private final Matching matching;
    private final Past past;
    private final Image firstImage;
    private final Image secondImage;
    private final Seen seen;
    private final Book book;
    private int theSeed;

    public GloveSigns() {
        Season told = new Season();
        Hall now = new Hall();
        Trial tried = new Trial(told, now);
        text = new Text();
        draft = new Season();
        theSeason = told;
        hall = now;
        trial = tried;
        matching = new Matching(tried);
        past = new Past();
        firstImage = new Image();
        secondImage = new Image();
        seen = new Seen();
        book = new Book();
        theSeed = 0;
    }

    // ---- the season

    public int feed(int letter) {
        if (!isWithin(letter, 255)) {
            return OUTSIDE;
        }
        return text.append(letter) ? text.size : FULL;
    }

    public int season() {
        if (!text.read(draft)) {
            return -10 - text.faultNumber;
        }
        theSeason.become(draft);
        hall.open(theSeason);
        past.forget();
        firstImage.kept = false;
        secondImage.kept = false;
        seen.forget();
        book.forget();
        return theSeason.comers;
    }

    public int fault() {
        return text.faultAt;
    }

    public int told(int what) {
        switch (what) {
            case 0: return theSeason.manners;
            case 1: return theSeason.comers;
            case 2: return theSeason.houses;
            case 3: return text.size;
            case 4: return hall.days;
            case 5: return hall.openToday;
            case 6: return hall.callsOfAll();
            case 7: return hall.welcome();
            case 8: return hall.coldest(theSeason.houses);
            case 9: return Glove.countSaid(theSeason.manners);
            case 10: return hall.log.size;
            case 11: return seen.size;
            case 12: return book.size;
            case 13: return past.size;
            default: return OUTSIDE;
        }
    }

    public int comer(int c, int what) {
        if (!theSeason.hasComer(c)) {
            return UNKNOWN;
        }
        switch (what) {
            case 0: return theSeason.worth[c];
            case 1: return hall.stuffing[c];
            case 2: return hall.meaning[c];
            case 3: return hall.shamAt[c];
            case 4: return matching.houseOf(c);
            default: return OUTSIDE;
        }
    }

    public int house(int h, int what) {
        if (!theSeason.hasHouse(h)) {
            return UNKNOWN;
        }
        switch (what) {
            case 0: return hall.hardness[h];
            case 1: return theSeason.fern[h];
            case 2: return matching.comerOf(h);
            case 3: return hall.callsAt(h);
            default: return OUTSIDE;
        }
    }

    public int prize(int h, int meaning) {
        if (!theSeason.hasHouse(h)) {
            return UNKNOWN;
        }
        return isWithin(meaning, MEANINGS - 1) ? theSeason.prizeOf(h, meaning) : OUTSIDE;
    }

    public int calls(int c, int h) {
        return theSeason.hasBoth(c, h) ? hall.callsOf(c, h) : UNKNOWN;
    }

    public int sign(int g, int what) {
        if (!Glove.isSign(g) || !isWithin(what, 1)) {
            return OUTSIDE;
        }
        if (!theSeason.isOn()) {
            return NOT;
        }
        if (what == 0) {
            return Glove.meaning(g);
        }
        return Glove.isSaid(theSeason.manners, g) ? 1 : 0;
    }

    public int logged(int i, int what) {
        return isWithin(what, Log.WIDTH - 1) ? hall.log.look(i, what) : OUTSIDE;
    }

    // ---- deeds

    public int visit(int c, int h, int g) {
        if (!theSeason.hasBoth(c, h)) {
            return UNKNOWN;
        }
        if (!Glove.isSign(g)) {
            return OUTSIDE;
        }
        past.remember(hall);
        return lay(c, h, g);
    }

    public int day(int n) {
        int refusal = refusalOfDays(n);
        if (refusal != 0) {
            return refusal;
        }
        for (int i = 0; i < n; i++) {
            past.remember(hall);
            hall.endDay(theSeason.houses);
        }
        return hall.days;
    }

    public int mean(int c, int n) {
        if (!theSeason.hasComer(c)) {
            return UNKNOWN;
        }
        if (!isWithin(n, MEANINGS - 1)) {
            return OUTSIDE;
        }
        past.remember(hall);
        int before = hall.meaning[c];
        hall.meaning[c] = n;
        return before;
    }

    public int stuff(int c, int n) {
        if (!theSeason.hasComer(c)) {
            return UNKNOWN;
        }
        if (!isWithin(n, GREATEST_STUFFING)) {
            return OUTSIDE;
        }
        past.remember(hall);
        int before = hall.stuffing[c];
        hall.stuffing[c] = n;
        return before;
    }

    public int pardon(int c, int h) {
        if (!theSeason.hasBoth(c, h)) {
            return UNKNOWN;
        }
        if (!hall.isSham(c, h)) {
            return NOT;
        }
        past.remember(hall);
        int before = hall.callsOf(c, h);
        hall.forgive(c, h);
        return before;
    }

    public int drift(int n) {
        int refusal = refusalOfDays(n);
        if (refusal != 0) {
            return refusal;
        }
        for (int i = 0; i < n; i++) {
            past.remember(hall);
            layByDraws();
            layByDraws();
            hall.endDay(theSeason.houses);
        }
        return hall.days;
    }

    public int undo(int n) {
        if (n < 1 || n > MOST_UNDONE) {
            return OUTSIDE;
        }
        return past.bringBack(n, hall) ? hall.days : NOT;
    }

    // ---- tried

    public int says(int c, int h, int g, int what) {
        if (!theSeason.hasBoth(c, h)) {
            return UNKNOWN;
        }
        if (!Glove.isSign(g) || !isWithin(what, 1)) {
            return OUTSIDE;
        }
        return what == 0 ? trial.heard(c, h, g) : trial.answer(c, h, g);
    }

    public int signs(int c, int h, int what) {
        if (!theSeason.hasBoth(c, h)) {
            return UNKNOWN;
        }
        switch (what) {
            case 0: return trial.countLetIn(c, h);
            case 1: return trial.plainest(c, h);
            case 2: return trial.honest(c, h);
            default: return OUTSIDE;
        }
    }

    public int gains(int c, int h) {
        return theSeason.hasBoth(c, h) ? trial.gain(c, h) : UNKNOWN;
    }

    public int clear(int meaning, int what) {
        if (!isWithin(meaning, MEANINGS - 1) || !isWithin(what, 1)) {
            return OUTSIDE;
        }
        if (!theSeason.isOn()) {
            return NOT;
        }
        return what == 0 ? trial.countMeaning(meaning) : trial.leastMeaning(meaning);
    }

    public int letIn(int c, int g) {
        if (!theSeason.hasComer(c)) {
            return UNKNOWN;
        }
        return Glove.isSign(g) ? trial.openHouses(c, g) : OUTSIDE;
    }

    public int round(int c, int what) {
        if (!theSeason.hasComer(c)) {
            return UNKNOWN;
        }
        if (!isWithin(what, 1)) {
            return OUTSIDE;
        }
        int g = trial.widestSign(c);
        return what == 0 ? Integer.bitCount(trial.openHouses(c, g)) : g;
    }

    public int suits(int c, int h) {
        return theSeason.hasBoth(c, h) ? trial.suit(c, h) : UNKNOWN;
    }

    public int dry(int n, int q) {
        if (!isWithin(n, 60) || !isWithin(q, 100)) {
            return OUTSIDE;
        }
        long odds = BILLION;
        for (int i = 0; i < n; i++) {
            odds = odds * q / 100;
        }
        return (int) odds;
    }

    // ---- what was meant

    public int meant(int part, int v) {
        if (!isWithin(part, PARTS - 1) || !isWithin(v, part == THUMB ? CARD : 1)) {
            return OUTSIDE;
        }
        return seen.append(part, v) ? seen.size : FULL;
    }

    public int couldBe(int what) {
        if (!isWithin(what, 2)) {
            return OUTSIDE;
        }
        if (!theSeason.isOn()) {
            return NOT;
        }
        switch (what) {
            case 0: return seen.countFits(theSeason.manners);
            case 1: return seen.leastFit(theSeason.manners);
            default: return seen.meaningsThatFit(theSeason.manners);
        }
    }

    public int part() {
        return theSeason.isOn() ? seen.bestPart(theSeason.manners) : NOT;
    }

    public int write(int h, int l) {
        if (!theSeason.hasHouse(h)) {
            return UNKNOWN;
        }
        if (!isWithin(l, HARDEST)) {
            return OUTSIDE;
        }
        return book.append(h, l) ? book.size : FULL;
    }

    public int judge() {
        return book.firstWrong(hall);
    }

    public int tear() {
        int had = seen.size + book.size;
        seen.forget();
        book.forget();
        return had;
    }

    // ---- images

    public int seed(int v) {
        if (v < 0) {
            return OUTSIDE;
        }
        int before = theSeed;
        theSeed = v;
        return before;
    }

    public int keep(int i) {
        if (!isWithin(i, 1)) {
            return UNKNOWN;
        }
        Image image = i == 0 ? firstImage : secondImage;
        image.kept = true;
        image.hall.become(hall);
        image.seedThen = theSeed;
        past.forget();
        return 1;
    }

    public int goBack(int i) {
        if (!isWithin(i, 1)) {
            return UNKNOWN;
        }
        Image image = i == 0 ? firstImage : secondImage;
        if (!image.kept) {
            return NOT;
        }
        hall.become(image.hall);
        theSeed = image.seedThen;
        past.forget();
        return 1;
    }

    // ---- what several calls share

    private static boolean isWithin(int number, int most) {
        return number >= 0 && number <= most;
    }

    private int refusalOfDays(int n) {
        if (n < 1 || n > MOST_DAYS_AT_ONCE) {
            return OUTSIDE;
        }
        if (!theSeason.isOn()) {
            return NOT;
        }
        return hall.days > LAST_DAY ? FULL : 0;
    }

    private int lay(int c, int h, int g) {
        int answer = trial.answer(c, h, g);
        hall.log.append(hall.days, c, h, g, answer);
        if (answer != OUT) {
            hall.welcomeIn(c, h);
        }
        return answer;
    }

    private void layByDraws() {
        // Without comers or houses nothing is drawn, so the seed stays.
        if (theSeason.comers < 1 || theSeason.houses < 1) {
            return;
        }
        int c = draw(theSeason.comers);
        int h = draw(theSeason.houses);
        int g = draw(SIGNS);
        lay(c, h, g);
    }

    private int draw(int n) {
        // The int product wraps by 2 to the 32, so its low 31 bits are those of the true product.
        theSeed = (theSeed * 1103515245 + 12345) & 2147483647;
        return n < 1 ? 0 : theSeed / 65536 % n;
    }

    /** What can be told of a sign by itself. */
    private static final class Glove {
        static boolean isSign(int g) {
            return g >= 0 && g < SIGNS;
        }

        static int partOf(int g, int part) {
            return part == THUMB ? g / 16 : g >> part & 1;
        }

        static int meaning(int g) {
            if (g / 16 == CARD) {
                return MEANINGS - 1;
            }
            int crossed = (g & CROSSED_BIT) != 0 ? 3 : 0;
            int finger = (g & FINGER_BIT) != 0 ? 1 : 0;
            return (g & LEFT_BIT) + (g & BACK_BIT) / BACK_BIT + crossed + finger;
        }

        /** By the grammar of these manners; without manners nothing is said. */
        static boolean isSaid(int manners, int g) {
            int thumb = g / 16;
            boolean fingerAndCard = (g & FINGER_BIT) != 0 && thumb == CARD;
            boolean leftOnItsBack = (g & LEFT_BIT) != 0 && (g & BACK_BIT) != 0;
            switch (manners) {
                case 0: return true;
                case 1: return (g & CROSSED_BIT) == 0 || thumb == THUMB_OUT;
                case 2: return !leftOnItsBack && !fingerAndCard;
                default: return false;
            }
        }

        static int countSaid(int manners) {
            int count = 0;
            for (int g = 0; g < SIGNS; g++) {
                if (isSaid(manners, g)) {
                    count++;
                }
            }
            return count;
        }

        /** How far a sign is from plain: parts that are not as a right glove lies with its thumb in. */
        static int partsLaid(int g) {
            int count = 0;
            for (int part = 0; part < PARTS; part++) {
                if (partOf(g, part) != 0) {
                    count++;
                }
            }
            return count;
        }
    }

    /** The text as it is told, and its reading; behind the first fault nothing read counts. */
    private static final class Text {
        private static final int END = -1;
        private static final int CANNOT_STAND = 1;
        private static final int BAD_NUMBER = 2;
        private static final int TOO_MANY = 3;

        private final int[] letters = new int[MOST_LETTERS];
        private int at = 0;
        int size = 0;
        int faultNumber = 0;
        int faultAt = NONE;

        boolean append(int letter) {
            if (size >= MOST_LETTERS) {
                return false;
            }
            letters[size] = letter;
            size++;
            return true;
        }

        /** Reads the text into a season, and empties it: whether it has no fault. */
        boolean read(Season into) {
            into.empty();
            at = 0;
            faultNumber = 0;
            faultAt = NONE;
            for (int i = 0; i < MOST_LETTERS && faultNumber == 0 && peek() != END; i++) {
                readClause(into);
            }
            size = 0;
            return faultNumber == 0;
        }

        private void readClause(Season into) {
            int word = peek();
            if (word != 's' && (!into.isOn() || word != 'c' && word != 'h')) {
                fail(CANNOT_STAND, at);
            } else if (word == 's' && into.isOn()
                    || word == 'c' && into.comers >= MOST_COMERS
                    || word == 'h' && into.houses >= MOST_HOUSES) {
                fail(TOO_MANY, at);
            } else {
                at++;
                readNumbers(word, into);
                expectEnd();
            }
        }

        private void readNumbers(int word, Season into) {
            if (word == 's') {
                into.manners = number(GREATEST_MANNERS);
            } else if (word == 'c') {
                int worth = number(GREATEST_WORTH);
                int stuffing = number(GREATEST_STUFFING);
                into.addComer(worth, stuffing, number(MEANINGS - 1));
            } else {
                int hardness = number(HARDEST);
                into.addHouse(hardness, number(HARDEST));
                readPrizes(into);
            }
        }

        private void readPrizes(Season into) {
            int h = into.houses - 1;
            for (int meaning = 0; meaning < MEANINGS; meaning++) {
                into.setPrize(h, meaning, number(GREATEST_PRIZE));
                // The ',' of a ninth prize is left to stand where only ';' can.
                if (peek() != ',' || meaning == MEANINGS - 1) {
                    return;
                }
                at++;
            }
        }

        private int number(int most) {
            peek();
            int first = at;
            int value = 0;
            while (at < size && isFigure(letters[at])) {
                // Held low: a long row of figures must not wrap to a small number.
                value = Math.min(value * 10 + letters[at] - '0', 1000);
                at++;
            }
            if (at == first) {
                fail(CANNOT_STAND, first);
            } else if (at - first > 3 || value > most) {
                fail(BAD_NUMBER, first);
                return 0;
            }
            return value;
        }

        private static boolean isFigure(int letter) {
            return letter >= '0' && letter <= '9';
        }

        private void expectEnd() {
            if (peek() == ';') {
                at++;
            } else {
                fail(CANNOT_STAND, at);
            }
        }

        private int peek() {
            while (at < size && letters[at] == ' ') {
                at++;
            }
            return at < size ? letters[at] : END;
        }

        private void fail(int number, int place) {
            // Reading goes on to the clause's end behind a fault; only the first one tells.
            if (faultNumber == 0) {
                faultNumber = number;
                faultAt = place;
            }
        }
    }

    /** What the text tells; nothing in it changes by deeds. */
    private static final class Season {
        int manners = NONE;
        int comers = 0;
        int houses = 0;
        final int[] worth = new int[MOST_COMERS];
        final int[] firstStuffing = new int[MOST_COMERS];
        final int[] firstMeaning = new int[MOST_COMERS];
        final int[] firstHardness = new int[MOST_HOUSES];
        final int[] fern = new int[MOST_HOUSES];
        private final int[] prizes = new int[MOST_HOUSES * MEANINGS];

        boolean isOn() {
            return manners != NONE;
        }

        boolean hasComer(int c) {
            return c >= 0 && c < comers;
        }

        boolean hasHouse(int h) {
            return h >= 0 && h < houses;
        }

        boolean hasBoth(int c, int h) {
            return hasComer(c) && hasHouse(h);
        }

        int prizeOf(int h, int meaning) {
            return prizes[h * MEANINGS + meaning];
        }

        void setPrize(int h, int meaning, int value) {
            if (hasHouse(h) && isWithin(meaning, MEANINGS - 1)) {
                prizes[h * MEANINGS + meaning] = value;
            }
        }

        void addComer(int worthOf, int stuffing, int meaning) {
            if (comers < MOST_COMERS) {
                worth[comers] = worthOf;
                firstStuffing[comers] = stuffing;
                firstMeaning[comers] = meaning;
                comers++;
            }
        }

        void addHouse(int hardness, int fernFrom) {
            if (houses < MOST_HOUSES) {
                firstHardness[houses] = hardness;
                fern[houses] = fernFrom;
                houses++;
            }
        }

        void empty() {
            manners = NONE;
            comers = 0;
            houses = 0;
            Arrays.fill(prizes, 0);
        }

        void become(Season other) {
            manners = other.manners;
            comers = other.comers;
            houses = other.houses;
            System.arraycopy(other.worth, 0, worth, 0, MOST_COMERS);
            System.arraycopy(other.firstStuffing, 0, firstStuffing, 0, MOST_COMERS);
            System.arraycopy(other.firstMeaning, 0, firstMeaning, 0, MOST_COMERS);
            System.arraycopy(other.firstHardness, 0, firstHardness, 0, MOST_HOUSES);
            System.arraycopy(other.fern, 0, fern, 0, MOST_HOUSES);
            System.arraycopy(other.prizes, 0, prizes, 0, MOST_HOUSES * MEANINGS);
        }
    }

    /** The latest visits, in a ring. */
    private static final class Log {
        static final int WIDTH = 5;

        private final int[] rows = new int[MOST_LOGGED * WIDTH];
        private int newest = 0;
        int size = 0;

        void append(int day, int c, int h, int g, int answer) {
            newest = newest < MOST_LOGGED - 1 ? newest + 1 : 0;
            size = Math.min(size + 1, MOST_LOGGED);
            int from = newest * WIDTH;
            rows[from] = day;
            rows[from + 1] = c;
            rows[from + 2] = h;
            rows[from + 3] = g;
            rows[from + 4] = answer;
        }

        int look(int i, int what) {
            if (i < 0 || i >= size) {
                return NONE;
            }
            int row = newest >= i ? newest - i : newest - i + MOST_LOGGED;
            return rows[row * WIDTH + what];
        }

        void empty() {
            newest = 0;
            size = 0;
        }

        void become(Log other) {
            newest = other.newest;
            size = other.size;
            System.arraycopy(other.rows, 0, rows, 0, MOST_LOGGED * WIDTH);
        }
    }

    /** All that deeds change: what undoing and images bring back. */
    private static final class Hall {
        private static final int PAIRS = MOST_COMERS * MOST_HOUSES;
        private static final int SHAM_FROM = 5;
        private static final int SHAM_AFTER = 3;

        int days = 0;
        int openToday = 0;
        final int[] stuffing = new int[MOST_COMERS];
        final int[] meaning = new int[MOST_COMERS];
        final int[] shamAt = new int[MOST_COMERS];
        final int[] hardness = new int[MOST_HOUSES];
        private final int[] callsMade = new int[PAIRS];
        private final int[] letInStuffed = new int[PAIRS];
        final Log log = new Log();

        void open(Season told) {
            days = 0;
            openToday = 0;
            System.arraycopy(told.firstStuffing, 0, stuffing, 0, MOST_COMERS);
            System.arraycopy(told.firstMeaning, 0, meaning, 0, MOST_COMERS);
            System.arraycopy(told.firstHardness, 0, hardness, 0, MOST_HOUSES);
            Arrays.fill(shamAt, 0);
            Arrays.fill(callsMade, 0);
            Arrays.fill(letInStuffed, 0);
            log.empty();
        }

        void become(Hall other) {
            days = other.days;
            openToday = other.openToday;
            System.arraycopy(other.stuffing, 0, stuffing, 0, MOST_COMERS);
            System.arraycopy(other.meaning, 0, meaning, 0, MOST_COMERS);
            System.arraycopy(other.shamAt, 0, shamAt, 0, MOST_COMERS);
            System.arraycopy(other.hardness, 0, hardness, 0, MOST_HOUSES);
            System.arraycopy(other.callsMade, 0, callsMade, 0, PAIRS);
            System.arraycopy(other.letInStuffed, 0, letInStuffed, 0, PAIRS);
            log.become(other.log);
        }

        private static int pair(int c, int h) {
            return c * MOST_HOUSES + h;
        }

        int callsOf(int c, int h) {
            return callsMade[pair(c, h)];
        }

        int callsAt(int h) {
            int sum = 0;
            for (int c = 0; c < MOST_COMERS; c++) {
                sum += callsOf(c, h);
            }
            return sum;
        }

        int callsOfAll() {
            int sum = 0;
            for (int h = 0; h < MOST_HOUSES; h++) {
                sum += callsAt(h);
            }
            return sum;
        }

        int welcome() {
            int best = NONE;
            int most = 0;
            for (int h = 0; h < MOST_HOUSES; h++) {
                if (callsAt(h) > most) {
                    most = callsAt(h);
                    best = h;
                }
            }
            return best;
        }

        int coldest(int houses) {
            int best = NONE;
            for (int h = 0; h < houses && h < MOST_HOUSES; h++) {
                if (best == NONE || hardness[h] > hardness[best]) {
                    best = h;
                }
            }
            return best;
        }

        boolean isSham(int c, int h) {
            return (shamAt[c] >> h & 1) != 0;
        }

        void welcomeIn(int c, int h) {
            int pair = pair(c, h);
            openToday |= 1 << h;
            callsMade[pair] = Math.min(callsMade[pair] + 1, MOST_CALLS);
            if (stuffing[c] < SHAM_FROM) {
                return;
            }
            letInStuffed[pair] = Math.min(letInStuffed[pair] + 1, SHAM_AFTER);
            if (letInStuffed[pair] >= SHAM_AFTER) {
                shamAt[c] |= 1 << h;
            }
        }

        void forgive(int c, int h) {
            shamAt[c] &= ~(1 << h);
            callsMade[pair(c, h)] = 0;
            letInStuffed[pair(c, h)] = 0;
        }

        void endDay(int houses) {
            for (int h = 0; h < houses && h < MOST_HOUSES; h++) {
                boolean wasOpen = (openToday >> h & 1) != 0;
                hardness[h] = wasOpen ? Math.min(hardness[h] + 1, HARDEST) : Math.max(hardness[h] - 1, 0);
            }
            openToday = 0;
            days++;
        }
    }

    /** What would come of signs, as all stands now; it changes nothing. */
    private static final class Trial {
        private static final int PRIZE_TIMES = 3;
        private static final int MUMBLED_LESS = 10;

        private final Season told;
        private final Hall hall;

        Trial(Season told, Hall hall) {
            this.told = told;
            this.hall = hall;
        }

        int comers() {
            return told.comers;
        }

        int houses() {
            return told.houses;
        }

        private int stuffingBelieved(int c, int h) {
            return hall.isSham(c, h) ? 0 : hall.stuffing[c];
        }

        private int heardStuffed(int c, int h, int g, int stuffing) {
            int heard = told.worth[c] + stuffing + PRIZE_TIMES * told.prizeOf(h, Glove.meaning(g));
            return Glove.isSaid(told.manners, g) ? heard : Math.max(heard - MUMBLED_LESS, 0);
        }

        int heard(int c, int h, int g) {
            return heardStuffed(c, h, g, stuffingBelieved(c, h));
        }

        int answer(int c, int h, int g) {
            int heard = heard(c, h, g);
            if (heard >= told.fern[h]) {
                return FERN;
            }
            return heard >= hall.hardness[h] ? HAD_UP : OUT;
        }

        private boolean isSaidFor(int g, int meaning) {
            return Glove.isSaid(told.manners, g) && Glove.meaning(g) == meaning;
        }

        int countLetIn(int c, int h) {
            int count = 0;
            for (int g = 0; g < SIGNS; g++) {
                if (answer(c, h, g) != OUT) {
                    count++;
                }
            }
            return count;
        }

        int plainest(int c, int h) {
            int best = NONE;
            for (int g = 0; g < SIGNS; g++) {
                if (answer(c, h, g) != OUT && (best == NONE || Glove.partsLaid(g) < Glove.partsLaid(best))) {
                    best = g;
                }
            }
            return best;
        }

        int honest(int c, int h) {
            for (int g = 0; g < SIGNS; g++) {
                if (isSaidFor(g, hall.meaning[c]) && answer(c, h, g) != OUT) {
                    return g;
                }
            }
            return NONE;
        }

        int gain(int c, int h) {
            return mostHeard(c, h, stuffingBelieved(c, h)) - mostHeard(c, h, 0);
        }

        private int mostHeard(int c, int h, int stuffing) {
            int most = 0;
            for (int g = 0; g < SIGNS; g++) {
                most = Math.max(most, heardStuffed(c, h, g, stuffing));
            }
            return most;
        }

        int countMeaning(int meaning) {
            int count = 0;
            for (int g = 0; g < SIGNS; g++) {
                if (isSaidFor(g, meaning)) {
                    count++;
                }
            }
            return count;
        }

        int leastMeaning(int meaning) {
            for (int g = 0; g < SIGNS; g++) {
                if (isSaidFor(g, meaning)) {
                    return g;
                }
            }
            return NONE;
        }

        int openHouses(int c, int g) {
            int open = 0;
            for (int h = 0; h < told.houses; h++) {
                if (answer(c, h, g) != OUT) {
                    open |= 1 << h;
                }
            }
            return open;
        }

        int widestSign(int c) {
            int best = 0;
            int most = 0;
            for (int g = 0; g < SIGNS; g++) {
                int count = Integer.bitCount(openHouses(c, g));
                if (count > most) {
                    most = count;
                    best = g;
                }
            }
            return best;
        }

        int suit(int c, int h) {
            int most = NONE;
            int stuffing = stuffingBelieved(c, h);
            for (int g = 0; g < SIGNS; g++) {
                if (isSaidFor(g, hall.meaning[c])) {
                    most = Math.max(most, heardStuffed(c, h, g, stuffing));
                }
            }
            return most;
        }
    }

    /** Comers ask, houses keep the best that asked: a match that none would leave. */
    private static final class Matching {
        /** Each comer asks each house once at most, and then gives up once. */
        private static final int MOST_STEPS = MOST_COMERS * (MOST_HOUSES + 1);

        private final Trial trial;
        private final int[] suit = new int[MOST_COMERS * MOST_HOUSES];
        private final int[] refusedBy = new int[MOST_COMERS];
        private final int[] houseFor = new int[MOST_COMERS];
        private final int[] comerFor = new int[MOST_HOUSES];
        private int givenUp = 0;

        Matching(Trial trial) {
            this.trial = trial;
        }

        int houseOf(int c) {
            settle();
            return houseFor[c];
        }

        int comerOf(int h) {
            settle();
            return comerFor[h];
        }

        private void settle() {
            begin();
            for (int i = 0; i < MOST_STEPS; i++) {
                int c = firstWaiting();
                if (c == NONE) {
                    return;
                }
                int h = bestLeft(c);
                if (h == NONE) {
                    givenUp |= 1 << c;
                } else {
                    ask(c, h);
                }
            }
        }

        private void begin() {
            Arrays.fill(refusedBy, 0);
            Arrays.fill(houseFor, NONE);
            Arrays.fill(comerFor, NONE);
            givenUp = 0;
            for (int c = 0; c < trial.comers(); c++) {
                for (int h = 0; h < trial.houses(); h++) {
                    suit[c * MOST_HOUSES + h] = trial.suit(c, h);
                }
            }
        }

        private int firstWaiting() {
            for (int c = 0; c < trial.comers(); c++) {
                if (houseFor[c] == NONE && (givenUp >> c & 1) == 0) {
                    return c;
                }
            }
            return NONE;
        }

        private int bestLeft(int c) {
            int best = NONE;
            int most = NONE;
            for (int h = 0; h < trial.houses(); h++) {
                // A suit of NONE is never more than NONE, so such a house is not asked.
                if ((refusedBy[c] >> h & 1) == 0 && suit[c * MOST_HOUSES + h] > most) {
                    most = suit[c * MOST_HOUSES + h];
                    best = h;
                }
            }
            return best;
        }

        private void ask(int c, int h) {
            int other = comerFor[h];
            if (other == NONE) {
                join(c, h);
            } else if (isPreferred(c, other, h)) {
                houseFor[other] = NONE;
                refusedBy[other] |= 1 << h;
                join(c, h);
            } else {
                refusedBy[c] |= 1 << h;
            }
        }

        private boolean isPreferred(int c, int other, int h) {
            int mine = suit[c * MOST_HOUSES + h];
            int theirs = suit[other * MOST_HOUSES + h];
            return mine > theirs || mine == theirs && c < other;
        }

        private void join(int c, int h) {
            houseFor[c] = h;
            comerFor[h] = c;
        }
    }

    /** How all stood ahead of each of the latest deeds, in a ring. */
    private static final class Past {
        private final Hall[] halls = new Hall[MOST_UNDONE];
        private int next = 0;
        int size = 0;

        Past() {
            for (int i = 0; i < MOST_UNDONE; i++) {
                halls[i] = new Hall();
            }
        }

        void remember(Hall now) {
            halls[next].become(now);
            next = next < MOST_UNDONE - 1 ? next + 1 : 0;
            size = Math.min(size + 1, MOST_UNDONE);
        }

        boolean bringBack(int n, Hall now) {
            if (n < 1 || n > size) {
                return false;
            }
            next = next >= n ? next - n : next - n + MOST_UNDONE;
            size -= n;
            now.become(halls[next]);
            return true;
        }

        void forget() {
            size = 0;
        }
    }

    /** All to go on from, as it was kept. */
    private static final class Image {
        boolean kept = false;
        int seedThen = 0;
        final Hall hall = new Hall();
    }

    /** Parts that were seen of an unknown sign that was said. */
    private static final class Seen {
        private final int[] parts = new int[MOST_SEEN];
        private final int[] values = new int[MOST_SEEN];
        int size = 0;

        boolean append(int part, int value) {
            if (size >= MOST_SEEN) {
                return false;
            }
            parts[size] = part;
            values[size] = value;
            size++;
            return true;
        }

        void forget() {
            size = 0;
        }

        private boolean fits(int manners, int g) {
            for (int i = 0; i < size; i++) {
                if (Glove.partOf(g, parts[i]) != values[i]) {
                    return false;
                }
            }
            return Glove.isSaid(manners, g);
        }

        int countFits(int manners) {
            int count = 0;
            for (int g = 0; g < SIGNS; g++) {
                if (fits(manners, g)) {
                    count++;
                }
            }
            return count;
        }

        int leastFit(int manners) {
            for (int g = 0; g < SIGNS; g++) {
                if (fits(manners, g)) {
                    return g;
                }
            }
            return NONE;
        }

        int meaningsThatFit(int manners) {
            int meanings = 0;
            for (int g = 0; g < SIGNS; g++) {
                if (fits(manners, g)) {
                    meanings |= 1 << Glove.meaning(g);
                }
            }
            return meanings;
        }

        int bestPart(int manners) {
            int best = NONE;
            // A part by which all are alike tells nothing, so it must leave fewer than all.
            int least = countFits(manners);
            for (int part = 0; part < PARTS; part++) {
                int alike = mostAlike(manners, part);
                if (alike < least) {
                    least = alike;
                    best = part;
                }
            }
            return best;
        }

        private int mostAlike(int manners, int part) {
            int most = 0;
            for (int value = 0; value <= CARD; value++) {
                most = Math.max(most, countAlike(manners, part, value));
            }
            return most;
        }

        private int countAlike(int manners, int part, int value) {
            int count = 0;
            for (int g = 0; g < SIGNS; g++) {
                if (Glove.partOf(g, part) == value && fits(manners, g)) {
                    count++;
                }
            }
            return count;
        }
    }

    /** The visitors' book: from what houses are told to have up. */
    private static final class Book {
        private final int[] houses = new int[MOST_ENTRIES];
        private final int[] hardness = new int[MOST_ENTRIES];
        int size = 0;

        boolean append(int h, int l) {
            if (size >= MOST_ENTRIES) {
                return false;
            }
            houses[size] = h;
            hardness[size] = l;
            size++;
            return true;
        }

        void forget() {
            size = 0;
        }

        int firstWrong(Hall now) {
            for (int i = 0; i < size; i++) {
                if (now.hardness[houses[i]] != hardness[i]) {
                    return i;
                }
            }
            return NONE;
        }
    }
}
