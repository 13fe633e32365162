/** Promises 1 and 5 to 9, sentence by sentence: what is there in an empty office and in a full one, each thing by its number. */
public final class NowEdgeTest {
    private static final Check CHECK = new Check();
    private static final int NONE = TwinInk.NONE;
    private static final int[][] WORDS = {
        {0, 8}, {8, 0}, {1, 7}, {7, 1}, {2, 6}, {6, 2}, {3, 5}, {5, 3}, {4, 0}, {0, 4}, {4, 8}, {8, 4}};

    public static void main(String[] args) {
        newObject();
        fullCounts();
        statusCounts();
        couplesNow();
        everySheet();
        everyBearer();
        edgesNow();
        everyClerk();
        whatOneKnows();
        everyWord();
        whereItShows();
        whoKnows();
        everyTown();
        CHECK.end();
    }

    /** "No SHEETS, no CLERKS." */
    private static void newObject() {
        TwinInk x = new TwinInk();
        for (int what = 0; what <= 14; what++) {
            CHECK.is("count(" + what + ") of a new object", x.count(what), 0);
        }
        CHECK.noSuch("no SHEET", () -> x.sheet(0, 0));
        CHECK.noSuch("no CLERK", () -> x.clerk(0, 0));
        CHECK.noSuch("no WORD", () -> x.word(0, 0));
        for (int town = 0; town < 4; town++) {
            for (int what = 0; what <= 4; what++) {
                CHECK.is("town(" + town + ", " + what + ") of a new object", x.town(town, what), 0);
            }
        }
        CHECK.is("no FAULT", x.fault(), NONE);
        CHECK.is("no ROW", x.row(NONE), 0);
        CHECK.is("no ACT", x.undo(), NONE);
        CHECK.is("no image", x.restore(), false);
        CHECK.is("DAYS go by", x.days(20), 20);
        CHECK.is("the DAY", x.count(4), 20);
    }

    private static String sheets() {
        StringBuilder b = new StringBuilder();
        for (int i = 0; i < 9; i++) {
            b.append("sheet 7 7 ").append(i % 4).append(';');
        }
        return b.toString();
    }

    private static String words() {
        StringBuilder b = new StringBuilder();
        for (int[] word : WORDS) {
            b.append("word ").append(word[0]).append(' ').append(word[1]).append(';');
        }
        return b.toString();
    }

    // ---- counts

    /** Promise 5: each count at the most that it can be. */
    private static void fullCounts() {
        TwinInk x = CHECK.of("sheet 7 7 3;".repeat(9) + words() + "clerk 3;".repeat(6) + "slack 8;");
        CHECK.is("SHEETS", x.count(0), 9);
        CHECK.is("CLERKS", x.count(1), 6);
        CHECK.is("WORDS", x.count(2), 12);
        CHECK.is("SLACK", x.count(3), 8);
        CHECK.is("the DAY at first", x.count(4), 0);
        CHECK.is("none is BURNT", x.count(5), 0);
        CHECK.is("none is borne", x.count(6), 0);
        CHECK.is("nothing is known", x.count(7), 0);
        CHECK.is("COUPLES", x.count(8), 4);
        CHECK.is("SLACK without", CHECK.of("clerk 0;").count(3), 0);
        for (int sheet = 0; sheet < 9; sheet++) {
            x.take(sheet % 6, sheet);
            CHECK.is("borne", x.count(6), (2 << sheet) - 1);
            CHECK.is("ACTS", x.count(9), sheet + 1);
        }
        for (int i = 1; i <= 49; i++) {
            CHECK.is("the DAY", x.days(20), 20 * i);
        }
        x.days(19);
        CHECK.is("the last DAY", x.count(4), 999);
        CHECK.is("all are known", x.count(7), 4095);
        CHECK.is("40 ACTS", x.count(9), 40);
        for (int sheet = 8; sheet >= 0; sheet--) {
            x.leave(sheet % 6, sheet);
            CHECK.is("borne still", x.count(6), (1 << sheet) - 1);
        }
        x.fire(3);
        CHECK.is("all are BURNT", x.count(5), 511);
        CHECK.is("no COUPLES", x.count(8), 0);
        CHECK.is("all are known still", x.count(7), 4095);
        CHECK.is("SHEETS, BURNT or not", x.count(0), 9);
        CHECK.is("WORDS, DEAD or not", x.count(2), 12);
        for (int many = 1; many <= 8; many++) {
            x.hear(5, 11, 12, true);
            CHECK.is("HEARD", x.count(10), many);
        }
        for (int many = 1; many <= 35; many++) {
            x.feed(0, 0, 0, 0, 0);
            CHECK.is("the tape", x.count(11), 20 * many);
        }
    }

    /** "12 to 14 STATUS 0 to 2": each of them by its own refusal, and not by another one's. */
    private static void statusCounts() {
        TwinInk x = CHECK.of("sheet 7 7 3;sheet 7 7 3;clerk 0;word 0 1;");
        for (int many = 1; many <= 3; many++) {
            x.days(0);
            CHECK.is("STATUS 1", State.status(x), "0 " + many + " 0");
        }
        for (int many = 1; many <= 4; many++) {
            x.hear(0, 0, 13, true);
            CHECK.is("STATUS 2", State.status(x), "0 3 " + many);
        }
        for (int many = 1; many <= 5; many++) {
            Check.tell(x, "x");
            CHECK.is("STATUS 0", State.status(x), many + " 3 4");
        }
        CHECK.noSuch("count(15)", () -> x.count(15));
        CHECK.noSuch("count(-1)", () -> x.count(-1));
        CHECK.is("what throws is not refused", State.status(x), "5 3 4");
    }

    /** COUPLES are those of now: what is forged, or borne elsewhere. */
    private static void couplesNow() {
        TwinInk x = CHECK.of("sheet 1 2 0;sheet 4 8 0;clerk 0 1;");
        CHECK.is("none", x.count(8), 0);
        x.forge(0, 1, 1);
        x.forge(0, 1, 2);
        CHECK.is("one by forging", x.count(8), 1);
        x.take(0, 0);
        x.days(1);
        CHECK.is("where they are doesn't count", x.count(8), 1);
        x.fire(0);
        CHECK.is("none by a FIRE", x.count(8), 0);
        // A row that was asked for leaves nothing that couples would be counted by, nor the other way about.
        for (int many = 0; many <= 9; many++) {
            TwinInk alike = CHECK.of("sheet 7 7 0;".repeat(many));
            for (int i = 0; i < 2; i++) {
                CHECK.is("a ROW of " + many, alike.row(NONE), many);
                CHECK.is("COUPLES of " + many, alike.count(8), many / 2);
            }
        }
    }

    // ---- sheets

    /** Promise 6, SHEET by SHEET: "0 LEFT, 1 RIGHT, 2 the TOWN where it is (NONE: BURNT), 3 who bears it (NONE), 4 FITTING (bits)" */
    private static void everySheet() {
        StringBuilder text = new StringBuilder();
        for (int i = 0; i < 9; i++) {
            text.append("sheet ").append(10 + i).append(' ').append(11 + i).append(' ').append(3 - i % 4).append(';');
        }
        TwinInk x = CHECK.of(text.toString());
        for (int i = 0; i < 9; i++) {
            CHECK.is("LEFT of " + i, x.sheet(i, 0), 10 + i);
            CHECK.is("RIGHT of " + i, x.sheet(i, 1), 11 + i);
            CHECK.is("TOWN of " + i, x.sheet(i, 2), 3 - i % 4);
            CHECK.is("who bears " + i, x.sheet(i, 3), NONE);
            CHECK.is("FITTING of " + i, x.sheet(i, 4), i < 8 ? 2 << i : 0);
        }
        for (int town = 0; town < 4; town++) {
            x.fire(town);
            for (int i = 0; i < 9; i++) {
                boolean isBurnt = 3 - i % 4 <= town;
                CHECK.is("TOWN of " + i + " behind " + town, x.sheet(i, 2), isBurnt ? NONE : 3 - i % 4);
                CHECK.is("LEFT of it", x.sheet(i, 0), 10 + i);
            }
        }
    }

    private static void everyBearer() {
        TwinInk x = CHECK.of("sheet 7 7 2;".repeat(9) + "clerk 2 0;clerk 2 1;clerk 2 2;clerk 2 3;clerk 2 3;clerk 2 0;");
        int[] next = {0, 1, 2, 3, 3, 0};
        for (int i = 0; i < 9; i++) {
            CHECK.is("nobody bears " + i, x.sheet(i, 3), NONE);
            x.take((i + 3) % 6, i);
            CHECK.is("who bears " + i, x.sheet(i, 3), (i + 3) % 6);
            CHECK.is("where the bearer is", x.sheet(i, 2), 2);
        }
        x.days(1);
        for (int i = 0; i < 9; i++) {
            CHECK.is("who bears " + i + " elsewhere", x.sheet(i, 3), (i + 3) % 6);
            CHECK.is("where " + i + " is borne", x.sheet(i, 2), next[(i + 3) % 6]);
            CHECK.is("where " + i + " is left", x.leave((i + 3) % 6, i), next[(i + 3) % 6]);
            CHECK.is("nobody bears " + i + " then", x.sheet(i, 3), NONE);
        }
        x.days(1);
        for (int i = 0; i < 9; i++) {
            CHECK.is("it stays where it was left", x.sheet(i, 2), next[(i + 3) % 6]);
        }
    }

    private static void edgesNow() {
        TwinInk x = CHECK.of("sheet 0 0 0;sheet 128 1 0;moulds sheet*8;");
        x.forge(0, 0, 0);
        CHECK.is("LEFT by forging", x.sheet(0, 0), 1);
        CHECK.is("RIGHT stays", x.sheet(0, 1), 0);
        CHECK.is("FITTING by forging", x.sheet(1, 4), 1);
        x.days(1);
        CHECK.is("RIGHT by mould", x.sheet(1, 1), 129);
        CHECK.is("LEFT stays", x.sheet(1, 0), 128);
        CHECK.is("FITTING by mould", x.sheet(1, 4), 0);
        CHECK.is("no mould on the other one", x.sheet(0, 1), 0);
        x.undo();
        x.undo();
        CHECK.is("LEFT as told", x.sheet(0, 0), 0);
        CHECK.is("RIGHT as told", x.sheet(1, 1), 1);
    }

    // ---- clerks

    /** Promise 7, CLERK by CLERK: "0 the TOWN, .. 2 SHEETS one bears (bits), 3 TOWNS of the ROUND" */
    private static void everyClerk() {
        String[] rounds = {"3", "3 0", "3 1 2", "3 2 2 0", "3 1 1 1 1", "3 0 1 2 0 1"};
        StringBuilder text = new StringBuilder("sheet 7 7 3;".repeat(9));
        for (String round : rounds) {
            text.append("clerk ").append(round).append(';');
        }
        TwinInk x = CHECK.of(text.toString());
        int[] bears = new int[6];
        for (int sheet = 0; sheet < 9; sheet++) {
            int clerk = sheet * 5 % 6;
            x.take(clerk, sheet);
            bears[clerk] |= 1 << sheet;
            for (int i = 0; i < 6; i++) {
                CHECK.is("CLERK " + i + " bears", x.clerk(i, 2), bears[i]);
            }
        }
        for (int day = 0; day <= 12; day++) {
            for (int i = 0; i < 6; i++) {
                CHECK.is("TOWNS of CLERK " + i, x.clerk(i, 3), i + 1);
                CHECK.is("TOWN of CLERK " + i + " on " + day, x.clerk(i, 0), rounds[i].charAt(2 * (day % (i + 1))) - '0');
                CHECK.is("what CLERK " + i + " bears stays", x.clerk(i, 2), bears[i]);
            }
            x.days(1);
        }
    }

    /** "1 WORDS one KNOWS": each WORD alone is its own bit. */
    private static void whatOneKnows() {
        for (int word = 0; word < 12; word++) {
            StringBuilder text = new StringBuilder();
            for (int sheet = 0; sheet < 9; sheet++) {
                // Sheets of this word alone fit, and only as told: all other edges differ.
                int left = sheet == WORDS[word][1] ? 255 : 0;
                int right = sheet == WORDS[word][0] ? 255 : 60;
                text.append("sheet ").append(left).append(' ').append(right).append(" 1;");
            }
            TwinInk x = CHECK.of(text + words() + "clerk 1;clerk 2;clerk 0 1;");
            CHECK.is("KNOWS nothing at first", x.clerk(0, 1), 0);
            x.days(1);
            CHECK.is("KNOWS WORD " + word, x.clerk(0, 1), 1 << word);
            CHECK.is("another one elsewhere doesn't", x.clerk(1, 1), 0);
            CHECK.is("nor one who isn't there yet", x.clerk(2, 1), 0);
            x.days(1);
            CHECK.is("when one comes there", x.clerk(2, 1), 1 << word);
            CHECK.is("who KNOWS it", x.word(word, 3), 5);
            CHECK.is("some CLERK KNOWS it", x.count(7), 1 << word);
        }
    }

    // ---- words

    /** Promise 8, WORD by WORD: "0 the left SHEET, 1 the right one" */
    private static void everyWord() {
        TwinInk x = CHECK.of(sheets() + words());
        for (int word = 0; word < 12; word++) {
            CHECK.is("left SHEET of " + word, x.word(word, 0), WORDS[word][0]);
            CHECK.is("right SHEET of " + word, x.word(word, 1), WORDS[word][1]);
        }
        for (int town = 0; town < 4; town++) {
            x.fire(town);
        }
        for (int word = 0; word < 12; word++) {
            CHECK.is("left SHEET, BURNT", x.word(word, 0), WORDS[word][0]);
            CHECK.is("right SHEET, BURNT", x.word(word, 1), WORDS[word][1]);
            CHECK.is("SHOWS nowhere", x.word(word, 2), NONE);
        }
    }

    /** "2 the TOWN where it SHOWS now (NONE: it doesn't)" */
    private static void whereItShows() {
        for (int town = 0; town < 4; town++) {
            for (int other = 0; other < 4; other++) {
                TwinInk x = CHECK.of("sheet 1 2 " + town + ";sheet 2 3 " + other + ";word 0 1;word 1 0;");
                CHECK.is("SHOWS", x.word(0, 2), town == other ? town : NONE);
                CHECK.is("doesn't FIT", x.word(1, 2), NONE);
                for (int there = 0; there < 4; there++) {
                    CHECK.is("SHOWS there", x.town(there, 3), town == other && there == town ? 1 : 0);
                }
            }
        }
        // It shows with nobody there, and whatever LAYS gives.
        CHECK.is("no CLERK", CHECK.of("sheet 1 1 2;sheet 1 1 2;word 0 1;lays 0;").word(0, 2), 2);
    }

    /** "3 who KNOWS it (bits)": every set of six CLERKS */
    private static void whoKnows() {
        for (int set = 0; set < 64; set++) {
            StringBuilder text = new StringBuilder("sheet 1 1 3;sheet 1 1 3;word 1 0;word 0 1;");
            for (int clerk = 0; clerk < 6; clerk++) {
                text.append((set >> clerk & 1) == 1 ? "clerk 3;" : "clerk 2;");
            }
            TwinInk x = CHECK.of(text.toString());
            x.days(1);
            CHECK.is("who KNOWS it", x.word(0, 3), set);
            CHECK.is("who KNOWS the other one", x.word(1, 3), set);
            CHECK.is("CLERKS there", x.town(3, 2), set);
            CHECK.is("CLERKS elsewhere", x.town(2, 2), 63 & ~set);
        }
    }

    // ---- towns

    /** Promise 9, TOWN by TOWN: "0 SHEETS in its archive, 1 SHEETS there, borne or not, 2 CLERKS there, .." */
    private static void everyTown() {
        TwinInk x = CHECK.of(sheets() + words() + "clerk 0 1;clerk 1 2;clerk 2 3;clerk 3 0;");
        int[] archive = {0b100010001, 0b000100010, 0b001000100, 0b010001000};
        for (int town = 0; town < 4; town++) {
            CHECK.is("archive of " + town, x.town(town, 0), archive[town]);
            CHECK.is("SHEETS in " + town, x.town(town, 1), archive[town]);
            CHECK.is("CLERKS in " + town, x.town(town, 2), 1 << town);
            CHECK.is("WORDS that SHOW in " + town, x.town(town, 3), wordsWithin(archive[town]));
            CHECK.is("WORDS LOST in " + town, x.town(town, 4), wordsWith(archive[town]));
        }
        for (int town = 0; town < 4; town++) {
            x.take(town, town);
        }
        x.days(1);
        for (int town = 0; town < 4; town++) {
            int there = archive[town] & ~(1 << town);
            int all = there | 1 << (town + 3) % 4;
            CHECK.is("archive of " + town + " then", x.town(town, 0), there);
            CHECK.is("SHEETS in " + town + " then", x.town(town, 1), all);
            CHECK.is("CLERKS in " + town + " then", x.town(town, 2), 1 << (town + 3) % 4);
            CHECK.is("WORDS that SHOW in " + town + " then", x.town(town, 3), wordsWithin(all));
            CHECK.is("WORDS LOST in " + town + " then", x.town(town, 4), wordsWith(there));
        }
    }

    /** Words both of whose sheets are among these: all edges are alike here. */
    private static int wordsWithin(int sheets) {
        int bits = 0;
        for (int word = 0; word < 12; word++) {
            if ((sheets >> WORDS[word][0] & sheets >> WORDS[word][1] & 1) == 1) {
                bits |= 1 << word;
            }
        }
        return bits;
    }

    private static int wordsWith(int sheets) {
        int bits = 0;
        for (int word = 0; word < 12; word++) {
            if (((sheets >> WORDS[word][0] | sheets >> WORDS[word][1]) & 1) == 1) {
                bits |= 1 << word;
            }
        }
        return bits;
    }
}
