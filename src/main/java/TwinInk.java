import java.util.Arrays;
import java.util.NoSuchElementException;

/** Sheets whose ink shows only beside their twins, and the clerks who bear them from town to town. */
public final class TwinInk {
    public static final int NONE = -1;

    private static final int TOWNS = 4;
    private static final int MOST_SHEETS = 9;
    private static final int MOST_CLERKS = 6;
    private static final int MOST_WORDS = 12;
    private static final int MOST_STOPS = 6;
    private static final int MOST_SLACK = 8;
    private static final int STEPS = 8;
    private static final int HIGHEST_EDGE = 255;
    private static final int TAPE_ROOM = 700;
    private static final int FEED = 20;
    private static final int LAST_DAY = 999;
    private static final int MOST_DAYS_AT_ONCE = 20;
    private static final int AHEAD = 40;
    private static final int ROUNDS_AHEAD = 60;
    private static final int MOST_ACTS = 40;
    private static final int MOST_HEARD = 8;
    private static final int MOST_HEARD_DAYS = 12;
    private static final int ASK_DAYS = 6;
    private static final int MOST_PAIRS = MOST_CLERKS * MOST_SHEETS;

    /** A place below 0 is none; one below IN_HANDS is a town's archive; IN_HANDS and more is a clerk. */
    private static final int BURNT = -1;
    private static final int IN_HANDS = 4;

    private static final int TEXTS_REFUSED = 0;
    private static final int ACTS_REFUSED = 1;
    private static final int HEARD_REFUSED = 2;

    private final byte[] tape = new byte[TAPE_ROOM];
    private int tapeLength = 0;
    private int faultPlace = NONE;
    private Office told = new Office();
    private Office spare = new Office();
    private final Reader reader = new Reader(tape, spare);
    private final World now = new World(told);
    private final World ahead = new World(told);
    private final Acts acts = new Acts();
    private final Hearsay heard = new Hearsay();
    private boolean hasImage = false;
    private final World imageWorld = new World(told);
    private final Acts imageActs = new Acts();
    private final Hearsay imageHeard = new Hearsay();
    private final Edges edges = new Edges();
    private final Draws draws = new Draws();
    private final int[] refused = new int[3];
    private final int[] answers = new int[MOST_PAIRS * MOST_CLERKS];

    public TwinInk() {
    }

    // ---- the tape and its office

    public int feed(int a, int b, int c, int d, int e) {
        if (tapeLength + FEED > TAPE_ROOM) {
            return NONE;
        }
        putNumber(a);
        putNumber(b);
        putNumber(c);
        putNumber(d);
        putNumber(e);
        return tapeLength;
    }

    private void putNumber(int number) {
        for (int shift = 24; shift >= 0 && tapeLength < TAPE_ROOM; shift -= 8) {
            tape[tapeLength] = (byte) (number >>> shift);
            tapeLength++;
        }
    }

    public int office(int n) throws IllegalArgumentException {
        if (n < 0 || n > tapeLength) {
            throw new IllegalArgumentException("the tape has not so many bytes");
        }
        tapeLength = 0;
        reader.begin(n, spare);
        for (int i = 0; i < TAPE_ROOM && reader.hasMore(); i++) {
            reader.readLine();
        }
        if (reader.fault != 0) {
            faultPlace = reader.faultPlace;
            refused[TEXTS_REFUSED]++;
            return reader.fault;
        }
        faultPlace = NONE;
        Office old = told;
        told = spare;
        spare = old;
        now.begin(told);
        acts.clear();
        heard.clear();
        hasImage = false;
        return 0;
    }

    public int fault() {
        return faultPlace;
    }

    // ---- what is there now

    public int count(int what) throws NoSuchElementException {
        switch (what) {
            case 0: return told.sheets;
            case 1: return told.clerks;
            case 2: return told.words;
            case 3: return told.slack;
            case 4: return now.day;
            case 5: return now.burntSheets();
            case 6: return now.sheetsInHands();
            case 7: return now.wordsKnown();
            case 8:
                edges.lookAt(now);
                return edges.mostCouples();
            case 9: return acts.many;
            case 10: return heard.many;
            case 11: return tapeLength;
            case 12: return refused[TEXTS_REFUSED];
            case 13: return refused[ACTS_REFUSED];
            case 14: return refused[HEARD_REFUSED];
            default: throw new NoSuchElementException("no such count");
        }
    }

    public int sheet(int sheet, int what) throws NoSuchElementException {
        needSheet(sheet);
        switch (what) {
            case 0: return now.left[sheet];
            case 1: return now.right[sheet];
            case 2: return now.townOf(sheet, 0);
            case 3: return now.bearerOf(sheet);
            case 4: return now.fitting(sheet);
            default: throw new NoSuchElementException("nothing such of a sheet");
        }
    }

    public int clerk(int clerk, int what) throws NoSuchElementException {
        needClerk(clerk);
        switch (what) {
            case 0: return told.townOn(clerk, now.day);
            case 1: return now.known[clerk];
            case 2: return now.sheetsOf(clerk);
            case 3: return told.stops[clerk];
            default: throw new NoSuchElementException("nothing such of a clerk");
        }
    }

    public int word(int word, int what) throws NoSuchElementException {
        needWord(word);
        switch (what) {
            case 0: return told.wordLeft[word];
            case 1: return told.wordRight[word];
            case 2: return now.townShowing(word);
            case 3: return now.knowers(word);
            default: throw new NoSuchElementException("nothing such of a word");
        }
    }

    public int town(int town, int what) throws NoSuchElementException {
        needTown(town);
        switch (what) {
            case 0: return now.archive(town);
            case 1: return now.sheetsIn(town, 0);
            case 2: return now.clerksIn(town);
            case 3: return now.wordsOf(now.sheetsIn(town, 0));
            case 4: return now.wordsLost(now.archive(town));
            default: throw new NoSuchElementException("nothing such of a town");
        }
    }

    // ---- acts

    public int days(int many) {
        if (many < 1 || many > MOST_DAYS_AT_ONCE || now.day + many > LAST_DAY) {
            refused[ACTS_REFUSED]++;
            return NONE;
        }
        acts.keep(now);
        now.passDays(many);
        return now.day;
    }

    public boolean take(int clerk, int sheet) throws NoSuchElementException {
        needClerk(clerk);
        needSheet(sheet);
        if (now.place[sheet] != told.townOn(clerk, now.day)) {
            refused[ACTS_REFUSED]++;
            return false;
        }
        acts.keep(now);
        now.place[sheet] = IN_HANDS + clerk;
        return true;
    }

    public int leave(int clerk, int sheet) throws NoSuchElementException {
        needClerk(clerk);
        needSheet(sheet);
        if (now.place[sheet] != IN_HANDS + clerk) {
            refused[ACTS_REFUSED]++;
            return NONE;
        }
        acts.keep(now);
        now.place[sheet] = told.townOn(clerk, now.day);
        return now.place[sheet];
    }

    public int forge(int sheet, int side, int step) throws NoSuchElementException {
        needSheet(sheet);
        needBelow(side, 2);
        needBelow(step, STEPS);
        if (now.place[sheet] == BURNT) {
            refused[ACTS_REFUSED]++;
            return NONE;
        }
        acts.keep(now);
        int[] edge = side == 0 ? now.left : now.right;
        edge[sheet] ^= 1 << step;
        return edge[sheet];
    }

    public int fire(int town) throws NoSuchElementException {
        needTown(town);
        int burning = now.archive(town);
        if (burning == 0) {
            refused[ACTS_REFUSED]++;
            return NONE;
        }
        acts.keep(now);
        now.burn(town);
        return burning;
    }

    public int undo() {
        if (acts.many == 0) {
            return NONE;
        }
        acts.takeBack(now);
        return acts.many;
    }

    // ---- what comes, if only days go by

    public int then(int clerk, int days, int what) throws NoSuchElementException, IllegalArgumentException {
        needClerk(clerk);
        needBelow(what, 2);
        needBetween(days, 0, AHEAD);
        if (what == 0) {
            return told.townOn(clerk, now.day + days);
        }
        lookAhead(days);
        return ahead.known[clerk];
    }

    public int where(int sheet, int days) throws NoSuchElementException, IllegalArgumentException {
        needSheet(sheet);
        needBetween(days, 0, AHEAD);
        return now.townOf(sheet, days);
    }

    public int first(int clerk, int word) throws NoSuchElementException {
        needClerk(clerk);
        needWord(word);
        lookAhead(0);
        for (int days = 0; days <= AHEAD; days++) {
            if (hasBit(ahead.known[clerk], word)) {
                return days;
            }
            ahead.passDay();
        }
        return NONE;
    }

    public int read(int days, int what) throws NoSuchElementException, IllegalArgumentException {
        needBelow(what, 2);
        needBetween(days, 0, AHEAD);
        lookAhead(days);
        return what == 0 ? ahead.wordsKnown() : ahead.wordsSecret();
    }

    public int mould(int sheet) throws NoSuchElementException {
        needSheet(sheet);
        lookAhead(0);
        for (int days = 1; days <= AHEAD; days++) {
            ahead.passDay();
            if (ahead.right[sheet] != now.right[sheet]) {
                return days;
            }
        }
        return NONE;
    }

    public int meet(int sheet, int other) throws NoSuchElementException {
        needSheet(sheet);
        needSheet(other);
        if (sheet == other) {
            return NONE;
        }
        for (int days = 0; days <= AHEAD; days++) {
            int town = now.townOf(sheet, days);
            if (town != NONE && town == now.townOf(other, days)) {
                return days;
            }
        }
        return NONE;
    }

    public int gathering(int days) throws IllegalArgumentException {
        needBetween(days, 0, AHEAD);
        int best = 0;
        int most = 0;
        for (int town = 0; town < TOWNS; town++) {
            int many = Integer.bitCount(now.sheetsIn(town, days));
            if (many > most) {
                most = many;
                best = town;
            }
        }
        return best;
    }

    public int chain(int clerk, int word) throws NoSuchElementException {
        needClerk(clerk);
        needWord(word);
        lookAhead(0);
        for (int days = 0; days <= AHEAD; days++) {
            if (hasBit(ahead.known[clerk], word)) {
                return days;
            }
            ahead.tellInTowns();
            ahead.passDay();
        }
        return NONE;
    }

    public int wisest(int days) throws IllegalArgumentException {
        needBetween(days, 0, AHEAD);
        lookAhead(days);
        int best = NONE;
        int most = -1;
        for (int clerk = 0; clerk < told.clerks; clerk++) {
            int many = Integer.bitCount(ahead.known[clerk]);
            if (many > most) {
                most = many;
                best = clerk;
            }
        }
        return best;
    }

    public int unread(int days) throws IllegalArgumentException {
        needBetween(days, 0, AHEAD);
        lookAhead(days);
        return told.words - Integer.bitCount(ahead.wordsKnown());
    }

    public int laid(int days) throws IllegalArgumentException {
        needBetween(days, 1, AHEAD);
        lookAhead(0);
        int many = 0;
        for (int i = 0; i < days; i++) {
            if (ahead.passDay()) {
                many++;
            }
        }
        return many;
    }

    // ---- edges

    public int row(int i) throws NoSuchElementException {
        edges.lookAt(now);
        int many = edges.layRow();
        if (i == NONE) {
            return many;
        }
        needBelow(i, many);
        return edges.row[i];
    }

    public int toForge(int left, int right) throws NoSuchElementException {
        needSheet(left);
        needSheet(right);
        if (left == right || now.place[left] == BURNT || now.place[right] == BURNT) {
            return NONE;
        }
        return Math.max(0, now.difference(left, right) - told.slack);
    }

    public int toSave(int town) throws NoSuchElementException {
        needTown(town);
        int archive = now.archive(town);
        int best = NONE;
        int fewest = Integer.bitCount(now.wordsLost(archive));
        for (int sheet = 0; sheet < told.sheets; sheet++) {
            if (hasBit(archive, sheet)) {
                int many = Integer.bitCount(now.wordsLost(archive & ~(1 << sheet)));
                if (many < fewest) {
                    fewest = many;
                    best = sheet;
                }
            }
        }
        return best;
    }

    public int toRead() {
        int sheets = 0;
        for (int word = 0; word < told.words; word++) {
            int left = told.wordLeft[word];
            int right = told.wordRight[word];
            if (now.fits(left, right)) {
                sheets |= 1 << left | 1 << right;
            }
        }
        return sheets;
    }

    public int odd(int what) throws NoSuchElementException {
        switch (what) {
            case 0:
                edges.lookAt(now);
                return edges.orphans();
            case 1: return now.wordsDead();
            case 2: return now.wordsBlank();
            case 3:
                edges.lookAt(now);
                return edges.strangers(told);
            default: throw new NoSuchElementException("nothing so odd");
        }
    }

    public int far(int left, int right) throws NoSuchElementException {
        needSheet(left);
        needSheet(right);
        return now.difference(left, right);
    }

    // ---- rounds

    public int company(int clerk, int other, int days) throws NoSuchElementException, IllegalArgumentException {
        needClerk(clerk);
        needClerk(other);
        needBetween(days, 1, ROUNDS_AHEAD);
        int many = 0;
        for (int i = 0; i < days; i++) {
            if (told.townOn(clerk, now.day + i) == told.townOn(other, now.day + i)) {
                many++;
            }
        }
        return many;
    }

    public int together(int many) throws IllegalArgumentException {
        needBetween(many, 1, MOST_CLERKS);
        for (int days = 0; days <= ROUNDS_AHEAD; days++) {
            if (told.largestCompany(now.day + days) >= many) {
                return days;
            }
        }
        return NONE;
    }

    public int heir(int clerk) throws NoSuchElementException {
        needClerk(clerk);
        int best = NONE;
        int most = -1;
        for (int other = 0; other < told.clerks; other++) {
            int many = Integer.bitCount(now.known[other] & now.known[clerk]);
            if (other != clerk && many > most) {
                most = many;
                best = other;
            }
        }
        return best;
    }

    // ---- what is heard

    public int hear(int clerk, int word, int days, boolean knows) throws NoSuchElementException {
        needClerk(clerk);
        needWord(word);
        if (heard.many >= MOST_HEARD || days < 0 || days > MOST_HEARD_DAYS) {
            refused[HEARD_REFUSED]++;
            return NONE;
        }
        heard.add(clerk, word, days, knows);
        return heard.many;
    }

    public void forget() {
        heard.clear();
    }

    public int borne(int what) throws NoSuchElementException {
        needBelow(what, 3);
        if (what == 2) {
            lookAhead(0);
            return heard.allSo(ahead) ? 1 : 0;
        }
        int many = 0;
        int least = NONE;
        for (int pair = 0; pair < MOST_PAIRS; pair++) {
            if (supposeBorne(pair) && heard.allSo(ahead)) {
                if (many == 0) {
                    least = pair / MOST_SHEETS * 10 + pair % MOST_SHEETS;
                }
                many++;
            }
        }
        return what == 0 ? many : least;
    }

    public int ask(int what) throws NoSuchElementException {
        needBelow(what, 2);
        int pairs = gatherAnswers();
        int best = NONE;
        int most = 0;
        for (int clerk = 0; clerk < told.clerks; clerk++) {
            int many = unlikeAnswers(clerk, pairs);
            if (many > most) {
                most = many;
                best = clerk;
            }
        }
        return what == 0 ? best : most;
    }

    /** Pairs are numbered by clerk and then by sheet; the world ahead is as if the one bore the other. */
    private boolean supposeBorne(int pair) {
        int clerk = pair / MOST_SHEETS;
        int sheet = pair % MOST_SHEETS;
        if (clerk >= told.clerks || sheet >= told.sheets) {
            return false;
        }
        if (now.place[sheet] == BURNT || now.place[sheet] == IN_HANDS + clerk) {
            return false;
        }
        ahead.copyFrom(now);
        ahead.place[sheet] = IN_HANDS + clerk;
        return true;
    }

    private int gatherAnswers() {
        int many = 0;
        for (int pair = 0; pair < MOST_PAIRS; pair++) {
            if (supposeBorne(pair) && heard.allSo(ahead)) {
                // What was heard may lie behind the day of the question, so the days are gone anew.
                supposeBorne(pair);
                ahead.passDays(ASK_DAYS);
                System.arraycopy(ahead.known, 0, answers, many * MOST_CLERKS, MOST_CLERKS);
                many++;
            }
        }
        return many;
    }

    private int unlikeAnswers(int clerk, int pairs) {
        int many = 0;
        for (int i = 0; i < pairs; i++) {
            boolean isNew = true;
            for (int j = 0; j < i && isNew; j++) {
                isNew = answers[j * MOST_CLERKS + clerk] != answers[i * MOST_CLERKS + clerk];
            }
            if (isNew) {
                many++;
            }
        }
        return many;
    }

    // ---- chances, games, years

    public int fires(int word, int tenths) throws NoSuchElementException, IllegalArgumentException {
        needWord(word);
        needBetween(tenths, 0, 10);
        int left = now.place[told.wordLeft[word]];
        int right = now.place[told.wordRight[word]];
        if (left == BURNT || right == BURNT) {
            return NONE;
        }
        int spared = 10 - tenths;
        int safe = 100;
        if (left < IN_HANDS) {
            safe = safe * spared / 10;
        }
        if (right < IN_HANDS && right != left) {
            safe = safe * spared / 10;
        }
        return (100 - safe) * 100;
    }

    public int game(int clerk, int other, int what) throws NoSuchElementException, IllegalArgumentException {
        needClerk(clerk);
        needClerk(other);
        needBelow(what, 2);
        if (clerk == other) {
            throw new IllegalArgumentException("one clerk is no couple");
        }
        int many = 0;
        int least = NONE;
        for (int couple = 0; couple < 4; couple++) {
            int shows = couple / 2;
            int otherShows = couple % 2;
            if (isBest(clerk, other, shows, otherShows) && isBest(other, clerk, otherShows, shows)) {
                if (many == 0) {
                    least = shows * 10 + otherShows;
                }
                many++;
            }
        }
        return what == 0 ? many : least;
    }

    private boolean isBest(int clerk, int other, int shows, int otherShows) {
        return gain(clerk, other, shows, otherShows) >= gain(clerk, other, 1 - shows, otherShows);
    }

    private int gain(int clerk, int other, int shows, int otherShows) {
        int own = now.sheetsOf(clerk);
        int others = now.sheetsOf(other);
        int seen = otherShows == 1 ? own | others : own;
        int otherSees = shows == 1 ? own | others : others;
        int news = now.wordsOf(seen) & ~now.known[clerk];
        int otherNews = now.wordsOf(otherSees) & ~now.known[other];
        return 3 * Integer.bitCount(news) - 2 * Integer.bitCount(otherNews);
    }

    public int years(int seed, int n, int what) throws NoSuchElementException, IllegalArgumentException {
        needBelow(what, 3);
        needBetween(n, 0, AHEAD);
        lookAhead(0);
        draws.seed = seed;
        for (int i = 0; i < n; i++) {
            drawAct();
            ahead.passDay();
        }
        if (what == 0) {
            return Integer.bitCount(ahead.wordsKnown());
        }
        if (what == 1) {
            return told.sheets - Integer.bitCount(ahead.burntSheets());
        }
        return Integer.bitCount(ahead.sheetsInHands());
    }

    private void drawAct() {
        int act = draws.next(6);
        if (act == 0) {
            ahead.burn(draws.next(TOWNS));
        } else if (act == 1 && told.clerks > 0) {
            ahead.takeLeast(draws.next(told.clerks));
        } else if (act == 2 && told.sheets > 0) {
            int sheet = draws.next(told.sheets);
            int step = draws.next(STEPS);
            ahead.left[sheet] ^= 1 << step;
        }
    }

    // ---- the image

    public void image() {
        imageWorld.copyFrom(now);
        imageActs.copyFrom(acts);
        imageHeard.copyFrom(heard);
        hasImage = true;
    }

    public boolean restore() {
        if (!hasImage) {
            return false;
        }
        now.copyFrom(imageWorld);
        acts.copyFrom(imageActs);
        heard.copyFrom(imageHeard);
        return true;
    }

    // ---- what every call looks at first

    private void lookAhead(int days) {
        ahead.copyFrom(now);
        ahead.passDays(days);
    }

    private void needSheet(int sheet) {
        if (sheet < 0 || sheet >= told.sheets) {
            throw new NoSuchElementException("no such sheet");
        }
    }

    private void needClerk(int clerk) {
        if (clerk < 0 || clerk >= told.clerks) {
            throw new NoSuchElementException("no such clerk");
        }
    }

    private void needWord(int word) {
        if (word < 0 || word >= told.words) {
            throw new NoSuchElementException("no such word");
        }
    }

    private static void needTown(int town) {
        if (town < 0 || town >= TOWNS) {
            throw new NoSuchElementException("no such town");
        }
    }

    private static void needBelow(int number, int bound) {
        if (number < 0 || number >= bound) {
            throw new NoSuchElementException("nothing such");
        }
    }

    private static void needBetween(int number, int least, int most) {
        if (number < least || number > most) {
            throw new IllegalArgumentException("not so many");
        }
    }

    private static boolean hasBit(int bits, int i) {
        return (bits >> i & 1) != 0;
    }

    private static int leastBit(int bits) {
        for (int i = 0; i < 32; i++) {
            if (hasBit(bits, i)) {
                return i;
            }
        }
        return NONE;
    }

    /** What a text tells, and no day changes. */
    private static final class Office {
        int sheets = 0;
        final int[] left = new int[MOST_SHEETS];
        final int[] right = new int[MOST_SHEETS];
        final int[] home = new int[MOST_SHEETS];
        int clerks = 0;
        final int[] stops = new int[MOST_CLERKS];
        final int[] rounds = new int[MOST_CLERKS * MOST_STOPS];
        int words = 0;
        final int[] wordLeft = new int[MOST_WORDS];
        final int[] wordRight = new int[MOST_WORDS];
        int slack = 0;
        boolean slackIsTold = false;
        final Rule lays = new Rule();
        final Rule moulds = new Rule();

        void clear() {
            sheets = 0;
            clerks = 0;
            words = 0;
            slack = 0;
            slackIsTold = false;
            lays.clear();
            moulds.clear();
        }

        void addSheet(int leftEdge, int rightEdge, int town) {
            if (sheets < MOST_SHEETS) {
                left[sheets] = leftEdge;
                right[sheets] = rightEdge;
                home[sheets] = town;
                sheets++;
            }
        }

        void addClerk(int town) {
            if (clerks < MOST_CLERKS) {
                stops[clerks] = 0;
                clerks++;
                addStop(town);
            }
        }

        /** The town comes behind the round of the clerk who was told last. */
        void addStop(int town) {
            int clerk = clerks - 1;
            if (clerk >= 0 && stops[clerk] < MOST_STOPS) {
                rounds[clerk * MOST_STOPS + stops[clerk]] = town;
                stops[clerk]++;
            }
        }

        int stopsOfLast() {
            return clerks > 0 ? stops[clerks - 1] : 0;
        }

        void addWord(int leftSheet, int rightSheet) {
            if (words < MOST_WORDS) {
                wordLeft[words] = leftSheet;
                wordRight[words] = rightSheet;
                words++;
            }
        }

        boolean hasWord(int leftSheet, int rightSheet) {
            for (int i = 0; i < words; i++) {
                if (wordLeft[i] == leftSheet && wordRight[i] == rightSheet) {
                    return true;
                }
            }
            return false;
        }

        int townOn(int clerk, int day) {
            int many = stops[clerk];
            return many > 0 ? rounds[clerk * MOST_STOPS + day % many] : 0;
        }

        int largestCompany(int day) {
            int most = 0;
            for (int town = 0; town < TOWNS; town++) {
                int many = 0;
                for (int clerk = 0; clerk < clerks; clerk++) {
                    if (townOn(clerk, day) == town) {
                        many++;
                    }
                }
                most = Math.max(most, many);
            }
            return most;
        }
    }

    /** A rule as steps that work on a pile: operands come upon it, operators take them from it. */
    private static final class Rule {
        static final int OR = -1;
        static final int AND = -2;
        static final int NOT = -3;
        static final int BELOW = -4;
        static final int LIKE = -5;
        static final int PLUS = -6;
        static final int MINUS = -7;
        static final int TIMES = -8;
        static final int OVER = -9;
        /** Steps from here on are values of the town or sheet; from 0 to here they are numbers. */
        static final int VALUES = 10000;
        /** Five operands can wait on each of six levels, and one is upon them. */
        static final int PILE_ROOM = 40;

        boolean isTold = false;
        private int length = 0;
        private final int[] steps = new int[TAPE_ROOM];
        private final int[] pile = new int[PILE_ROOM];

        void clear() {
            isTold = false;
            length = 0;
        }

        void add(int step) {
            if (length < TAPE_ROOM) {
                steps[length] = step;
                length++;
            }
        }

        int valueFor(int[] values) {
            int high = 0;
            for (int i = 0; i < length; i++) {
                int step = steps[i];
                if (step >= 0) {
                    if (high < PILE_ROOM) {
                        pile[high] = operand(step, values);
                        high++;
                    }
                } else if (step == NOT) {
                    if (high > 0) {
                        pile[high - 1] = pile[high - 1] == 0 ? 1 : 0;
                    }
                } else if (high > 1) {
                    high--;
                    pile[high - 1] = joined(step, pile[high - 1], pile[high]);
                }
            }
            return high > 0 ? pile[0] : 0;
        }

        private static int operand(int step, int[] values) {
            if (step < VALUES) {
                return step;
            }
            int slot = step - VALUES;
            return slot < values.length ? values[slot] : 0;
        }

        private static int joined(int step, int a, int b) {
            switch (step) {
                case OR: return a != 0 || b != 0 ? 1 : 0;
                case AND: return a != 0 && b != 0 ? 1 : 0;
                case BELOW: return a < b ? 1 : 0;
                case LIKE: return a == b ? 1 : 0;
                case PLUS: return a + b;
                case MINUS: return a - b;
                case TIMES: return a * b;
                default: return b == 0 ? 0 : a / b;
            }
        }
    }

    /** Reads a text token by token, as far as its first fault; behind that it sees the text's end alone. */
    private static final class Reader {
        private static final int END = 0;
        private static final int LETTERS = 1;
        private static final int NUMBER = 2;
        private static final int SIGN = 3;
        private static final int STRANGE = 4;

        private static final int OUT_OF_PLACE = 1;
        private static final int TOO_MUCH = 2;
        private static final int UNKNOWN = 3;
        private static final int TWICE_THE_SAME = 4;
        private static final int SECOND = 5;

        private static final int MOST_NESTED = 6;
        private static final int MOST_NOTS = 6;
        private static final int HIGHEST_NUMBER = 9999;
        private static final int MOST_DIGITS = 4;

        /** What binds loosest comes first; a part stands behind the last one. */
        private static final int TIER_OR = 0;
        private static final int TIER_AND = 1;
        private static final int TIER_TEST = 2;
        private static final int TIER_SUM = 3;
        private static final int TIER_PRODUCT = 4;

        int fault = 0;
        int faultPlace = NONE;
        private final byte[] text;
        private int length = 0;
        private Office office;
        private Rule rule;
        private boolean isOfTowns = true;
        private int kind = END;
        private int start = 0;
        private int end = 0;
        private int number = 0;

        Reader(byte[] text, Office office) {
            this.text = text;
            this.office = office;
            this.rule = office.lays;
        }

        void begin(int many, Office into) {
            length = Math.max(0, Math.min(many, text.length));
            office = into;
            office.clear();
            fault = 0;
            faultPlace = NONE;
            end = 0;
            advance();
        }

        boolean hasMore() {
            return kind != END;
        }

        // ---- tokens

        private void advance() {
            while (end < length && (text[end] == ' ' || text[end] == '\n')) {
                end++;
            }
            start = end;
            if (start >= length) {
                kind = END;
                return;
            }
            kind = kindOf(text[start]);
            end++;
            while ((kind == LETTERS || kind == NUMBER) && end < length && kindOf(text[end]) == kind) {
                end++;
            }
            if (kind == NUMBER) {
                number = numberThere();
            }
        }

        private static int kindOf(int sign) {
            if (sign >= 'a' && sign <= 'z') {
                return LETTERS;
            }
            if (sign >= '0' && sign <= '9') {
                return NUMBER;
            }
            switch (sign) {
                case ';': case '(': case ')': case '+': case '-':
                case '*': case '/': case '<': case '=':
                    return SIGN;
                default:
                    return STRANGE;
            }
        }

        /** A number of too many digits becomes one that is too high everywhere. */
        private int numberThere() {
            if (end - start > MOST_DIGITS) {
                return HIGHEST_NUMBER + 1;
            }
            int value = 0;
            for (int at = start; at < end; at++) {
                value = value * 10 + text[at] - '0';
            }
            return value;
        }

        private boolean stands(char sign) {
            return kind == SIGN && text[start] == sign;
        }

        private boolean spells(String letters) {
            if (kind != LETTERS || end - start != letters.length()) {
                return false;
            }
            for (int i = 0; i < letters.length(); i++) {
                if (text[start + i] != letters.charAt(i)) {
                    return false;
                }
            }
            return true;
        }

        private void fail(int what) {
            if (fault == 0) {
                fault = what;
                faultPlace = start;
                kind = END;
                start = length;
                end = length;
            }
        }

        // ---- lines

        void readLine() {
            if (spells("sheet")) {
                readSheetLine();
            } else if (spells("clerk")) {
                readClerkLine();
            } else if (spells("word")) {
                readWordLine();
            } else if (spells("slack")) {
                readSlackLine();
            } else if (spells("lays")) {
                readRuleLine(office.lays, true);
            } else if (spells("moulds")) {
                readRuleLine(office.moulds, false);
            } else {
                fail(OUT_OF_PLACE);
            }
            readSign(';');
        }

        private void readSheetLine() {
            if (!beginLine(office.sheets < MOST_SHEETS, TOO_MUCH)) {
                return;
            }
            int left = readNumber(HIGHEST_EDGE);
            int right = readNumber(HIGHEST_EDGE);
            int town = readNumber(TOWNS - 1);
            if (fault == 0) {
                office.addSheet(left, right, town);
            }
        }

        private void readClerkLine() {
            if (!beginLine(office.clerks < MOST_CLERKS, TOO_MUCH)) {
                return;
            }
            int town = readNumber(TOWNS - 1);
            if (fault == 0) {
                office.addClerk(town);
            }
            for (int i = 0; i < MOST_STOPS && kind == NUMBER; i++) {
                readNextStop();
            }
        }

        private void readNextStop() {
            if (office.stopsOfLast() >= MOST_STOPS) {
                fail(TOO_MUCH);
                return;
            }
            int town = readNumber(TOWNS - 1);
            if (fault == 0) {
                office.addStop(town);
            }
        }

        private void readWordLine() {
            if (!beginLine(office.words < MOST_WORDS, TOO_MUCH)) {
                return;
            }
            int left = readSheetNumber(NONE);
            int right = readSheetNumber(left);
            if (fault == 0) {
                office.addWord(left, right);
            }
        }

        private void readSlackLine() {
            if (!beginLine(!office.slackIsTold, SECOND)) {
                return;
            }
            int slack = readNumber(MOST_SLACK);
            if (fault == 0) {
                office.slack = slack;
                office.slackIsTold = true;
            }
        }

        private void readRuleLine(Rule into, boolean ofTowns) {
            if (!beginLine(!into.isTold, SECOND)) {
                return;
            }
            into.isTold = true;
            rule = into;
            isOfTowns = ofTowns;
            readTier(TIER_OR, 0);
        }

        private boolean beginLine(boolean isFine, int faultElse) {
            if (isFine) {
                advance();
            } else {
                fail(faultElse);
            }
            return isFine;
        }

        private void readSign(char sign) {
            if (stands(sign)) {
                advance();
            } else {
                fail(OUT_OF_PLACE);
            }
        }

        private int readNumber(int most) {
            if (kind != NUMBER) {
                fail(OUT_OF_PLACE);
                return 0;
            }
            if (number > most) {
                fail(TOO_MUCH);
                return 0;
            }
            int value = number;
            advance();
            return value;
        }

        /** The sheet that the word has already, or NONE, must not make a word that there is. */
        private int readSheetNumber(int beside) {
            if (kind == NUMBER && number <= HIGHEST_NUMBER) {
                if (number >= office.sheets) {
                    fail(UNKNOWN);
                } else if (number == beside || office.hasWord(beside, number)) {
                    fail(TWICE_THE_SAME);
                }
            }
            return readNumber(HIGHEST_NUMBER);
        }

        // ---- rules

        /** Depth tells within how many other expressions this one stands. */
        private void readTier(int tier, int depth) {
            if (tier == TIER_OR && depth >= MOST_NESTED) {
                failTooDeep();
                return;
            }
            if (tier > TIER_PRODUCT) {
                readPart(depth);
                return;
            }
            int nots = tier == TIER_TEST ? readNots() : 0;
            readTier(tier + 1, depth);
            int step = operatorOf(tier);
            for (int i = 0; i < TAPE_ROOM && step != 0; i++) {
                advance();
                readTier(tier + 1, depth);
                rule.add(step);
                step = tier == TIER_TEST ? 0 : operatorOf(tier);
            }
            for (int i = 0; i < nots; i++) {
                rule.add(Rule.NOT);
            }
        }

        private void failTooDeep() {
            boolean couldBegin = kind == NUMBER || kind == LETTERS || stands('(');
            fail(couldBegin ? TOO_MUCH : OUT_OF_PLACE);
        }

        private int readNots() {
            int many = 0;
            while (many < MOST_NOTS && spells("not")) {
                many++;
                advance();
            }
            if (spells("not")) {
                fail(TOO_MUCH);
            }
            return many;
        }

        /** The operator of this tier that stands here; 0 if there is none. */
        private int operatorOf(int tier) {
            switch (tier) {
                case TIER_OR: return spells("or") ? Rule.OR : 0;
                case TIER_AND: return spells("and") ? Rule.AND : 0;
                case TIER_TEST: return stands('<') ? Rule.BELOW : stands('=') ? Rule.LIKE : 0;
                case TIER_SUM: return stands('+') ? Rule.PLUS : stands('-') ? Rule.MINUS : 0;
                default: return stands('*') ? Rule.TIMES : stands('/') ? Rule.OVER : 0;
            }
        }

        private void readPart(int depth) {
            if (kind == NUMBER) {
                rule.add(readNumber(HIGHEST_NUMBER));
            } else if (kind == LETTERS) {
                int slot = isOfTowns ? townSlot() : sheetSlot();
                if (slot == NONE) {
                    fail(UNKNOWN);
                } else {
                    rule.add(Rule.VALUES + slot);
                    advance();
                }
            } else if (stands('(')) {
                advance();
                readTier(TIER_OR, depth + 1);
                readSign(')');
            } else {
                fail(OUT_OF_PLACE);
            }
        }

        private int townSlot() {
            return spells("town") ? World.SLOT_TOWN
                : spells("day") ? World.SLOT_DAY
                : spells("sheets") ? World.SLOT_SHEETS
                : spells("clerks") ? World.SLOT_CLERKS
                : spells("known") ? World.SLOT_KNOWN : NONE;
        }

        private int sheetSlot() {
            return spells("town") ? World.SLOT_TOWN
                : spells("day") ? World.SLOT_DAY
                : spells("left") ? World.SLOT_LEFT
                : spells("right") ? World.SLOT_RIGHT
                : spells("sheet") ? World.SLOT_SHEET
                : spells("borne") ? World.SLOT_BORNE : NONE;
        }
    }

    /** All that days and acts change. */
    private static final class World {
        /** Towns and sheets have values of their own at the same slots: no rule asks for both. */
        static final int SLOT_TOWN = 0;
        static final int SLOT_DAY = 1;
        static final int SLOT_SHEETS = 2;
        static final int SLOT_CLERKS = 3;
        static final int SLOT_KNOWN = 4;
        static final int SLOT_LEFT = 2;
        static final int SLOT_RIGHT = 3;
        static final int SLOT_SHEET = 4;
        static final int SLOT_BORNE = 5;
        static final int SLOTS = 6;
        static final int PACKED = 1 + MOST_SHEETS + MOST_CLERKS;

        Office office;
        int day = 0;
        final int[] left = new int[MOST_SHEETS];
        final int[] right = new int[MOST_SHEETS];
        final int[] place = new int[MOST_SHEETS];
        final int[] known = new int[MOST_CLERKS];
        private final int[] values = new int[SLOTS];

        World(Office office) {
            this.office = office;
        }

        void begin(Office newOffice) {
            office = newOffice;
            day = 0;
            System.arraycopy(office.left, 0, left, 0, MOST_SHEETS);
            System.arraycopy(office.right, 0, right, 0, MOST_SHEETS);
            System.arraycopy(office.home, 0, place, 0, MOST_SHEETS);
            Arrays.fill(known, 0);
        }

        void copyFrom(World other) {
            office = other.office;
            day = other.day;
            System.arraycopy(other.left, 0, left, 0, MOST_SHEETS);
            System.arraycopy(other.right, 0, right, 0, MOST_SHEETS);
            System.arraycopy(other.place, 0, place, 0, MOST_SHEETS);
            System.arraycopy(other.known, 0, known, 0, MOST_CLERKS);
        }

        void packInto(int[] room, int from) {
            room[from] = day;
            for (int sheet = 0; sheet < MOST_SHEETS; sheet++) {
                room[from + 1 + sheet] = left[sheet] | right[sheet] << 8 | (place[sheet] - BURNT) << 16;
            }
            System.arraycopy(known, 0, room, from + 1 + MOST_SHEETS, MOST_CLERKS);
        }

        void unpackFrom(int[] room, int from) {
            day = room[from];
            for (int sheet = 0; sheet < MOST_SHEETS; sheet++) {
                int packed = room[from + 1 + sheet];
                left[sheet] = packed & HIGHEST_EDGE;
                right[sheet] = packed >> 8 & HIGHEST_EDGE;
                place[sheet] = (packed >> 16) + BURNT;
            }
            System.arraycopy(room, from + 1 + MOST_SHEETS, known, 0, MOST_CLERKS);
        }

        // ---- where all are

        int bearerOf(int sheet) {
            return place[sheet] >= IN_HANDS ? place[sheet] - IN_HANDS : NONE;
        }

        int townOf(int sheet, int days) {
            if (place[sheet] >= IN_HANDS) {
                return office.townOn(place[sheet] - IN_HANDS, day + days);
            }
            return place[sheet] == BURNT ? NONE : place[sheet];
        }

        int sheetsIn(int town, int days) {
            int bits = 0;
            for (int sheet = 0; sheet < office.sheets; sheet++) {
                if (townOf(sheet, days) == town) {
                    bits |= 1 << sheet;
                }
            }
            return bits;
        }

        int clerksIn(int town) {
            int bits = 0;
            for (int clerk = 0; clerk < office.clerks; clerk++) {
                if (office.townOn(clerk, day) == town) {
                    bits |= 1 << clerk;
                }
            }
            return bits;
        }

        /** The number of a town tells its archive, too. */
        int archive(int town) {
            return sheetsAt(town);
        }

        int sheetsOf(int clerk) {
            return sheetsAt(IN_HANDS + clerk);
        }

        int burntSheets() {
            return sheetsAt(BURNT);
        }

        private int sheetsAt(int where) {
            int bits = 0;
            for (int sheet = 0; sheet < office.sheets; sheet++) {
                if (place[sheet] == where) {
                    bits |= 1 << sheet;
                }
            }
            return bits;
        }

        int sheetsInHands() {
            int bits = 0;
            for (int sheet = 0; sheet < office.sheets; sheet++) {
                if (place[sheet] >= IN_HANDS) {
                    bits |= 1 << sheet;
                }
            }
            return bits;
        }

        // ---- what fits and shows

        int difference(int leftSheet, int rightSheet) {
            return Integer.bitCount(right[leftSheet] ^ left[rightSheet]);
        }

        boolean fits(int leftSheet, int rightSheet) {
            return leftSheet != rightSheet && place[leftSheet] != BURNT && place[rightSheet] != BURNT
                && Integer.bitCount(right[leftSheet] ^ left[rightSheet]) <= office.slack;
        }

        int fitting(int sheet) {
            int bits = 0;
            for (int other = 0; other < office.sheets; other++) {
                if (fits(sheet, other)) {
                    bits |= 1 << other;
                }
            }
            return bits;
        }

        /** Words that can be read by whoever has just these sheets together. */
        int wordsOf(int sheets) {
            int bits = 0;
            for (int word = 0; word < office.words; word++) {
                int a = office.wordLeft[word];
                int b = office.wordRight[word];
                if (hasBit(sheets, a) && hasBit(sheets, b) && fits(a, b)) {
                    bits |= 1 << word;
                }
            }
            return bits;
        }

        int townShowing(int word) {
            int a = office.wordLeft[word];
            int b = office.wordRight[word];
            return fits(a, b) && townOf(a, 0) == townOf(b, 0) ? townOf(a, 0) : NONE;
        }

        int wordsLost(int burning) {
            int bits = 0;
            for (int word = 0; word < office.words; word++) {
                int a = office.wordLeft[word];
                int b = office.wordRight[word];
                if (!isDead(word) && (hasBit(burning, a) || hasBit(burning, b))) {
                    bits |= 1 << word;
                }
            }
            return bits;
        }

        private boolean isDead(int word) {
            return place[office.wordLeft[word]] == BURNT || place[office.wordRight[word]] == BURNT;
        }

        int wordsDead() {
            int bits = 0;
            for (int word = 0; word < office.words; word++) {
                if (isDead(word)) {
                    bits |= 1 << word;
                }
            }
            return bits;
        }

        int wordsBlank() {
            int bits = 0;
            for (int word = 0; word < office.words; word++) {
                if (!isDead(word) && !fits(office.wordLeft[word], office.wordRight[word])) {
                    bits |= 1 << word;
                }
            }
            return bits;
        }

        // ---- who knows what

        int knowers(int word) {
            int bits = 0;
            for (int clerk = 0; clerk < office.clerks; clerk++) {
                if (hasBit(known[clerk], word)) {
                    bits |= 1 << clerk;
                }
            }
            return bits;
        }

        int wordsKnown() {
            return wordsKnownBy((1 << office.clerks) - 1);
        }

        private int wordsKnownBy(int clerks) {
            int bits = 0;
            for (int clerk = 0; clerk < office.clerks; clerk++) {
                if (hasBit(clerks, clerk)) {
                    bits |= known[clerk];
                }
            }
            return bits;
        }

        int wordsSecret() {
            int once = 0;
            int more = 0;
            for (int clerk = 0; clerk < office.clerks; clerk++) {
                more |= once & known[clerk];
                once |= known[clerk];
            }
            return once & ~more;
        }

        // ---- days

        void passDays(int many) {
            for (int i = 0; i < many; i++) {
                passDay();
            }
        }

        /** Whether some clerk came to know a word by it. */
        boolean passDay() {
            boolean isLearnt = false;
            for (int town = 0; town < TOWNS; town++) {
                if (layIn(town)) {
                    isLearnt = true;
                }
            }
            if (office.moulds.isTold) {
                for (int sheet = 0; sheet < office.sheets; sheet++) {
                    mouldOn(sheet);
                }
            }
            day++;
            return isLearnt;
        }

        private boolean layIn(int town) {
            int there = clerksIn(town);
            if (there == 0) {
                return false;
            }
            int sheets = sheetsIn(town, 0);
            int shown = wordsOf(sheets);
            // Where nothing would be learnt, the rule need not be asked: it changes nothing else.
            if (shown == 0) {
                return false;
            }
            if (office.lays.isTold) {
                values[SLOT_TOWN] = town;
                values[SLOT_DAY] = day;
                values[SLOT_SHEETS] = Integer.bitCount(sheets);
                values[SLOT_CLERKS] = Integer.bitCount(there);
                values[SLOT_KNOWN] = Integer.bitCount(wordsKnownBy(there));
                if (office.lays.valueFor(values) <= 0) {
                    return false;
                }
            }
            return teach(there, shown);
        }

        private boolean teach(int clerks, int words) {
            boolean isLearnt = false;
            for (int clerk = 0; clerk < office.clerks; clerk++) {
                if (hasBit(clerks, clerk) && (words & ~known[clerk]) != 0) {
                    known[clerk] |= words;
                    isLearnt = true;
                }
            }
            return isLearnt;
        }

        private void mouldOn(int sheet) {
            if (place[sheet] == BURNT) {
                return;
            }
            values[SLOT_TOWN] = townOf(sheet, 0);
            values[SLOT_DAY] = day;
            values[SLOT_LEFT] = left[sheet];
            values[SLOT_RIGHT] = right[sheet];
            values[SLOT_SHEET] = sheet;
            values[SLOT_BORNE] = place[sheet] >= IN_HANDS ? 1 : 0;
            int value = office.moulds.valueFor(values);
            if (value > 0) {
                right[sheet] ^= 1 << (value - 1) % STEPS;
            }
        }

        void tellInTowns() {
            for (int town = 0; town < TOWNS; town++) {
                int there = clerksIn(town);
                teach(there, wordsKnownBy(there));
            }
        }

        // ---- acts that years draw as well

        void burn(int town) {
            for (int sheet = 0; sheet < office.sheets; sheet++) {
                if (place[sheet] == town) {
                    place[sheet] = BURNT;
                }
            }
        }

        void takeLeast(int clerk) {
            int least = leastBit(archive(office.townOn(clerk, day)));
            if (least != NONE) {
                place[least] = IN_HANDS + clerk;
            }
        }
    }

    /** How the sheets that aren't burnt lie beside each other. */
    private static final class Edges {
        static final int SETS = 1 << MOST_SHEETS;

        /** The sheets of the longest row, as far as layRow() told. */
        final int[] row = new int[MOST_SHEETS];
        private int sheets = 0;
        private int unburnt = 0;
        private final int[] rightOf = new int[MOST_SHEETS];
        private final int[] beside = new int[MOST_SHEETS];
        private final int[] bySet = new int[SETS];

        void lookAt(World world) {
            sheets = world.office.sheets;
            unburnt = (1 << sheets) - 1 & ~world.burntSheets();
            for (int sheet = 0; sheet < sheets; sheet++) {
                rightOf[sheet] = world.fitting(sheet);
                beside[sheet] = rightOf[sheet];
                for (int other = 0; other < sheets; other++) {
                    if (world.fits(other, sheet)) {
                        beside[sheet] |= 1 << other;
                    }
                }
            }
        }

        /** How long the longest row is; of like ones it is the first, sheet by sheet. */
        int layRow() {
            int many = markBeginnings();
            int used = 0;
            int next = unburnt;
            for (int i = 0; i < many; i++) {
                int can = next & beginningsOf(many - i, used);
                int sheet = leastBit(can);
                if (sheet == NONE) {
                    return i;
                }
                row[i] = sheet;
                used |= 1 << sheet;
                next = rightOf[sheet];
            }
            return many;
        }

        /** Marks with which sheets a row of just a set's sheets can begin; tells how many lie in the longest. */
        private int markBeginnings() {
            int most = 0;
            bySet[0] = 0;
            for (int set = 1; set < 1 << sheets; set++) {
                int bits = 0;
                for (int sheet = 0; sheet < sheets; sheet++) {
                    int rest = set & ~(1 << sheet);
                    if (hasBit(set & unburnt, sheet) && (rest == 0 || (rightOf[sheet] & bySet[rest]) != 0)) {
                        bits |= 1 << sheet;
                    }
                }
                bySet[set] = bits;
                if (bits != 0) {
                    most = Math.max(most, Integer.bitCount(set));
                }
            }
            return most;
        }

        private int beginningsOf(int many, int used) {
            int bits = 0;
            for (int set = 1; set < 1 << sheets; set++) {
                if ((set & used) == 0 && Integer.bitCount(set) == many) {
                    bits |= bySet[set];
                }
            }
            return bits;
        }

        int mostCouples() {
            bySet[0] = 0;
            for (int set = 1; set < 1 << sheets; set++) {
                int sheet = leastBit(set);
                int rest = set & set - 1;
                int most = bySet[rest];
                for (int other = sheet + 1; other < sheets; other++) {
                    if (hasBit(rest & beside[sheet], other)) {
                        most = Math.max(most, 1 + bySet[rest & ~(1 << other)]);
                    }
                }
                bySet[set] = most;
            }
            return bySet[(1 << sheets) - 1];
        }

        int orphans() {
            int bits = 0;
            for (int sheet = 0; sheet < sheets; sheet++) {
                if (hasBit(unburnt, sheet) && beside[sheet] == 0) {
                    bits |= 1 << sheet;
                }
            }
            return bits;
        }

        int strangers(Office office) {
            int many = 0;
            for (int sheet = 0; sheet < sheets; sheet++) {
                for (int other = sheet + 1; other < sheets; other++) {
                    if (hasBit(beside[sheet], other) && !office.hasWord(sheet, other)
                            && !office.hasWord(other, sheet)) {
                        many++;
                    }
                }
            }
            return many;
        }
    }

    /** The latest acts, each as the world was ahead of it. */
    private static final class Acts {
        int many = 0;
        private int oldest = 0;
        private final int[] worlds = new int[MOST_ACTS * World.PACKED];

        void clear() {
            many = 0;
            oldest = 0;
        }

        void keep(World world) {
            world.packInto(worlds, (oldest + many) % MOST_ACTS * World.PACKED);
            if (many < MOST_ACTS) {
                many++;
            } else {
                oldest = (oldest + 1) % MOST_ACTS;
            }
        }

        void takeBack(World world) {
            if (many > 0) {
                many--;
                world.unpackFrom(worlds, (oldest + many) % MOST_ACTS * World.PACKED);
            }
        }

        void copyFrom(Acts other) {
            many = other.many;
            oldest = other.oldest;
            System.arraycopy(other.worlds, 0, worlds, 0, worlds.length);
        }
    }

    /** What was heard of clerks, days being counted from the day on which it is asked for. */
    private static final class Hearsay {
        int many = 0;
        private final int[] clerks = new int[MOST_HEARD];
        private final int[] words = new int[MOST_HEARD];
        private final int[] days = new int[MOST_HEARD];
        private final boolean[] isKnown = new boolean[MOST_HEARD];

        void clear() {
            many = 0;
        }

        void add(int clerk, int word, int inDays, boolean knows) {
            if (many < MOST_HEARD) {
                clerks[many] = clerk;
                words[many] = word;
                days[many] = inDays;
                isKnown[many] = knows;
                many++;
            }
        }

        void copyFrom(Hearsay other) {
            many = other.many;
            for (int i = 0; i < many; i++) {
                clerks[i] = other.clerks[i];
                words[i] = other.words[i];
                days[i] = other.days[i];
                isKnown[i] = other.isKnown[i];
            }
        }

        /** Whether all of it is so in a world, whose days go by for it. */
        boolean allSo(World world) {
            int last = 0;
            for (int i = 0; i < many; i++) {
                last = Math.max(last, days[i]);
            }
            for (int day = 0; day <= last; day++) {
                if (day > 0) {
                    world.passDay();
                }
                for (int i = 0; i < many; i++) {
                    if (days[i] == day && hasBit(world.known[clerks[i]], words[i]) != isKnown[i]) {
                        return false;
                    }
                }
            }
            return true;
        }
    }

    /** Numbers drawn by a seed. */
    private static final class Draws {
        int seed = 0;

        int next(int many) {
            seed = seed * 1103515245 + 12345;
            return many > 0 ? (seed >> 16 & 32767) % many : 0;
        }
    }
}
