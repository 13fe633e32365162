/** "Terms" and promises 2 to 4, sentence by sentence: the last text that is let in and the first one that isn't. */
public final class TextEdgeTest {
    private static final Check CHECK = new Check();
    private static final int NONE = TwinInk.NONE;

    private static final String TWO = "sheet 0 0 0;sheet 0 0 0;";
    /** Each place of a NUMBER: what stands ahead of it, what behind it, and the highest one that may stand there. */
    private static final Object[][] NUMBERS = {
        {"sheet ", " 0 0;", 255}, {"sheet 0 ", " 0;", 255}, {"sheet 0 0 ", ";", 3},
        {"clerk ", ";", 3}, {"clerk ", " 0;", 3}, {"clerk 0 ", ";", 3}, {"clerk 0 0 0 0 0 ", ";", 3},
        {"slack ", ";", 8}, {"lays ", ";", 9999}, {"moulds 1+(", ");", 9999}, {"lays not ", "<1;", 9999},
        {"moulds 1<", ";", 9999}, {"lays 1 or 1 and 1=1+1*", ";", 9999}};

    public static void main(String[] args) {
        feeds();
        highestByteFirst();
        firstBytes();
        bytesOfTheText();
        everyByte();
        blanks();
        longestRows();
        digits();
        bounds();
        notNumbers();
        howMany();
        rounds();
        onceOnly();
        sheetsToldAhead();
        wordsOfTheSame();
        endsTooSoon();
        firstAlongTheText();
        leastOfOneToken();
        nested();
        nots();
        parts();
        allAnew();
        officeByOffice();
        ruleByRule();
        CHECK.end();
    }

    // ---- the tape

    /** "how many it has; NONE, and none come, if it would have more than 700." */
    private static void feeds() {
        TwinInk x = new TwinInk();
        CHECK.is("an empty tape", x.count(11), 0);
        for (int i = 1; i <= 35; i++) {
            CHECK.is("feed " + i, x.feed(0, 0, 0, 0, 0), 20 * i);
            CHECK.is("tape " + i, x.count(11), 20 * i);
        }
        CHECK.is("feed 36", x.feed(0, 0, 0, 0, 0), NONE);
        CHECK.is("tape 36", x.count(11), 700);
        x.office(1);
        CHECK.is("the tape is empty behind a FAULT", x.count(11), 0);
        CHECK.is("feed behind that", x.feed(0, 0, 0, 0, 0), 20);
    }

    /** "Twenty bytes come behind the tape, of each number the highest first" */
    private static void highestByteFirst() {
        String text = "slack 3;clerk 1 2 3;";
        for (int at = 0; at < 20; at++) {
            // A byte that is no TOKEN tells by its place where it came to stand.
            String spoilt = text.substring(0, at) + (char) 255 + text.substring(at + 1);
            // Within a word, it is the word's beginning that can't stand there.
            int place = at < 5 ? 0 : at >= 8 && at < 13 ? 8 : at;
            TwinInk x = new TwinInk();
            CHECK.is("a byte of 255 at " + at, Check.tell(x, spoilt), 1);
            CHECK.is("its place", x.fault(), place);
        }
        TwinInk x = new TwinInk();
        x.feed(0x736c6163, 0x6b20333b, 0x636c6572, 0x6b203120, 0x3220333b);
        CHECK.is("the numbers of '" + text + "'", x.office(20), 0);
        CHECK.is("SLACK", x.count(3), 3);
        CHECK.is("TOWNS", x.clerk(0, 3), 3);
        x.feed(0x20202020, 0x20202020, 0x20202020, 0x20202020, 0x20202073);
        x.feed(0x6c61636b, 0x20343b20, 0x20202020, 0x20202020, 0x20202020);
        CHECK.is("the second twenty come behind the first", x.office(40), 0);
        CHECK.is("SLACK of a word across both", x.count(3), 4);
        x.feed(0x736c6163, 0x6b20353b, 0x20202020, 0x20202020, 0x80808080);
        CHECK.is("bytes above 127", x.office(20), 1);
        CHECK.is("the first of them", x.fault(), 16);
    }

    /** "The tape's first n bytes (it is empty then) are an OFFICE"; "the tape has not so many, n below 0" */
    private static void firstBytes() {
        String text = "slack 1;clerk 1 2 3;";
        for (int n = 0; n <= 20; n++) {
            TwinInk x = fed(text);
            int got = x.office(n);
            CHECK.is("office(" + n + ")", got == 0, n == 0 || n == 8 || n == 20);
            CHECK.is("the tape behind office(" + n + ")", x.count(11), 0);
            CHECK.illegal("once more", () -> x.office(1));
        }
        TwinInk x = fed(text);
        CHECK.illegal("office(21)", () -> x.office(21));
        CHECK.illegal("office(-1)", () -> x.office(-1));
        CHECK.is("the tape stays", x.count(11), 20);
        CHECK.is("and is a text still", x.office(20), 0);
        TwinInk empty = new TwinInk();
        CHECK.is("office(0) of an empty tape", empty.office(0), 0);
        CHECK.illegal("office(1) of an empty tape", () -> empty.office(1));
    }

    private static TwinInk fed(String text) {
        TwinInk x = new TwinInk();
        Check.feed(x, text);
        return x;
    }

    /** "A TEXT of at most 700 bytes tells it." */
    private static void bytesOfTheText() {
        String blanks = " ".repeat(692);
        TwinInk last = CHECK.of(blanks + "slack 5;");
        CHECK.is("the last line of 700 bytes", last.count(3), 5);
        CHECK.fault(blanks + "slack 5:", 1, 699);
        CHECK.fault(blanks + " slack 5", 1, 700);
        CHECK.fault(" ".repeat(699) + "x", 1, 699);
        CHECK.of(" ".repeat(700));
        StringBuilder sum = new StringBuilder("lays 1");
        while (sum.length() < 698) {
            sum.append("+1");
        }
        CHECK.fault(sum + "+1", 1, 700);
        CHECK.fault(sum + "+;", 1, 699);
        CHECK.of(sum + " ;");
        CHECK.fault("lays " + "not".repeat(231) + "x;", 3, 5);
    }

    // ---- tokens

    private static void everyByte() {
        for (int b = 0; b < 256; b++) {
            char c = (char) b;
            boolean isBlank = b == 32 || b == 10;
            boolean isDigit = c >= '0' && c <= '9';
            boolean isLetter = c >= 'a' && c <= 'z';
            CHECK.fault("slack 1" + c + ";", isBlank ? 0 : isDigit ? 2 : 1, isBlank ? NONE : isDigit ? 6 : c == ';' ? 8 : 7);
            CHECK.fault(c + "slack 1;", isBlank ? 0 : 1, isBlank ? NONE : 0);
            // Behind a word a digit begins a TOKEN, without a blank, too: 01 may stand there, 11 to 91 may not.
            boolean isFine = isBlank || c == '0';
            CHECK.fault("slack" + c + "1;", isFine ? 0 : isDigit ? 2 : 1, isFine ? NONE : isLetter ? 0 : 5);
            boolean joins = isDigit || "+-*/<=".indexOf(c) >= 0;
            CHECK.fault("lays 1" + c + "1;", joins ? 0 : 1, joins ? NONE : isBlank || c == ';' ? 7 : 6);
        }
        CHECK.fault("slack1;slack2;", 5, 7);
    }

    /** "blanks (32, 10) between them count for nothing" */
    private static void blanks() {
        CHECK.of("  \n\n slack\n \n2 \n;\n");
        CHECK.of("slack 2;\n");
        CHECK.of("\nslack 2;");
        CHECK.of("lays(1)+town*(day);");
        CHECK.of("lays ( 1 ) + town\n*\n( day ) ;");
        CHECK.fault("sla ck 2;", 1, 0);
        CHECK.fault("clerk 0 1 2 3 3 3 \n 3;", 2, 20);
        CHECK.is("1 2 is no 12", CHECK.of("clerk 1 2;").clerk(0, 3), 2);
        CHECK.fault("sheet 1 2 5 3;", 2, 10);
        CHECK.fault("lays 1 2;", 1, 7);
        CHECK.fault("lays da y;", 3, 5);
        CHECK.fault("lays 1 = = 1;", 1, 9);
        CHECK.fault("\n \n x;", 1, 4);
    }

    /** "words (a .. z, the longest row)" */
    private static void longestRows() {
        CHECK.fault("slackslack 1;", 1, 0);
        CHECK.fault("slac 1;", 1, 0);
        CHECK.fault("slacks 1;", 1, 0);
        CHECK.fault("lays notday;", 3, 5);
        CHECK.of("lays not(day)or(1)and(1);");
        CHECK.fault("lays 1 or1;lays", 5, 11);
        CHECK.of("lays 1or 1and 1;");
        CHECK.fault("lays 1 ornot 1;", 1, 7);
        CHECK.fault("lays 1 orday;", 1, 7);
        CHECK.fault("lays dayor 1;", 3, 5);
        CHECK.fault("lays day1;", 1, 8);
        CHECK.fault("lays 1day;", 1, 6);
    }

    /** "NUMBERS (1 to 4 digits)"; FAULT 2 "a NUMBER of 5 digits or more" */
    private static void digits() {
        for (Object[] place : NUMBERS) {
            for (String zeros : new String[] {"0", "00", "000", "0000"}) {
                CHECK.of(place[0] + zeros + place[1]);
            }
            int at = ((String) place[0]).length();
            for (String zeros : new String[] {"00000", "000000", "00000000000000000000", "4294967296", "18446744073709551616"}) {
                CHECK.fault(place[0] + zeros + place[1], 2, at);
            }
        }
        for (String ahead : new String[] {TWO + "word ", TWO + "word 1 "}) {
            CHECK.of(ahead + "0000" + (ahead.endsWith("1 ") ? ";" : " 1;"));
            CHECK.fault(ahead + "00000 1;", 2, ahead.length());
        }
    }

    /** FAULT 2 "or (not in an EXPR) not as told (a TOWN to 3)": EDGES to 255, SLACK to 8 */
    private static void bounds() {
        for (Object[] place : NUMBERS) {
            int most = (Integer) place[2];
            int at = ((String) place[0]).length();
            CHECK.of(place[0] + "" + most + place[1]);
            CHECK.fault(place[0] + "" + (most + 1) + place[1], 2, at);
            CHECK.fault(place[0] + "" + Math.max(10000, most + 1) + place[1], 2, at);
            if (most < 9999) {
                CHECK.fault(place[0] + "9999" + place[1], 2, at);
            }
        }
        TwinInk x = CHECK.of("sheet 255 0 3;sheet 0 255 0;slack 8;clerk 3 0;");
        CHECK.is("LEFT 255", x.sheet(0, 0), 255);
        CHECK.is("RIGHT 0", x.sheet(0, 1), 0);
        CHECK.is("TOWN 3", x.sheet(0, 2), 3);
        CHECK.is("LEFT 0", x.sheet(1, 0), 0);
        CHECK.is("RIGHT 255", x.sheet(1, 1), 255);
        CHECK.is("TOWN 0", x.sheet(1, 2), 0);
        CHECK.is("SLACK 8", x.count(3), 8);
        CHECK.is("SLACK 0", CHECK.of("slack 0;").count(3), 0);
        CHECK.is("without SLACK", CHECK.of("clerk 0;").count(3), 0);
    }

    /** FAULT 1 "a TOKEN that can't stand there, or is none (the text's length where it ends too soon)" */
    private static void notNumbers() {
        String[] bad = {";", ")", "+", "-", "*", "/", "<", "=", "#", "A"};
        for (Object[] place : NUMBERS) {
            String ahead = (String) place[0];
            boolean isExpr = ahead.startsWith("lays") || ahead.startsWith("moulds");
            boolean mayEnd = ahead.startsWith("clerk 0 ");
            for (String b : bad) {
                if (!(mayEnd && b.equals(";"))) {
                    CHECK.fault(ahead + b + place[1], 1, ahead.length());
                }
            }
            CHECK.fault(ahead + "x" + place[1], isExpr ? 3 : 1, ahead.length());
            CHECK.fault(ahead, 1, ahead.length());
            CHECK.fault(ahead + "  \n", 1, ahead.length() + 3);
            if (!isExpr) {
                CHECK.fault(ahead + "(", 1, ahead.length());
                CHECK.fault(ahead + "sheet", 1, ahead.length());
                CHECK.fault(ahead + "slack", 1, ahead.length());
            }
        }
        CHECK.fault("sheet 0 0 0 0;", 1, 12);
        CHECK.fault("slack 0 0;", 1, 8);
        CHECK.fault(TWO + "word 0 1 0;", 1, 33);
        CHECK.fault("clerk 0 sheet;", 1, 8);
    }

    // ---- how many

    /** "SHEETS 0, 1 .. (at most 9)", "CLERKS .. (at most 6)", "WORDS .. (at most 12)"; FAULT 2 at the first TOKEN of one more */
    private static void howMany() {
        for (int many = 0; many <= 9; many++) {
            CHECK.is("SHEETS", CHECK.of("sheet 0 0 0;".repeat(many)).count(0), many);
        }
        String nine = "sheet 0 0 0;".repeat(9);
        for (String tenth : new String[] {"sheet 0 0 0;", "sheet", "sheet x", "sheet 999 0 0;", "sheet;"}) {
            CHECK.fault(nine + tenth, 2, nine.length());
            CHECK.fault(nine + "slack 1;" + tenth, 2, nine.length() + 8);
        }
        for (int many = 0; many <= 6; many++) {
            CHECK.is("CLERKS", CHECK.of("clerk 0;".repeat(many)).count(1), many);
        }
        String six = "clerk 0;".repeat(6);
        for (String seventh : new String[] {"clerk 0;", "clerk", "clerk 9;", "clerk;"}) {
            CHECK.fault(six + seventh, 2, six.length());
        }
        CHECK.of(nine + six);
        for (int many = 0; many <= 12; many++) {
            CHECK.is("WORDS", CHECK.of(nine + wordLines(many)).count(2), many);
        }
        String twelve = nine + wordLines(12);
        for (String last : new String[] {"word 8 0;", "word", "word 9 9;", "word 0 1;", "word 0 0;", "word 12345 1;"}) {
            CHECK.fault(twelve + last, 2, twelve.length());
        }
        CHECK.of(twelve + "slack 1;lays 1;moulds 1;" + six);
    }

    private static String wordLines(int many) {
        StringBuilder b = new StringBuilder();
        for (int i = 0; i < many; i++) {
            b.append("word ").append(i % 4).append(' ').append(4 + i / 4).append(';');
        }
        return b.toString();
    }

    /** "a ROUND (1 to 6 TOWNS)"; FAULT 2 at the 7th TOWN */
    private static void rounds() {
        CHECK.fault("clerk;", 1, 5);
        for (int many = 1; many <= 6; many++) {
            CHECK.is("TOWNS of a ROUND", CHECK.of("clerk" + " 2".repeat(many) + ";").clerk(0, 3), many);
        }
        for (String seventh : new String[] {"0", "3", "4", "9999", "10000", "0 0"}) {
            CHECK.fault("clerk 0 0 0 0 0 0 " + seventh + ";", 2, 18);
        }
        CHECK.fault("clerk 0 0 0 0 0 0 x;", 1, 18);
        CHECK.fault("clerk 0 0 0 0 0 0", 1, 17);
        CHECK.of("clerk 0 0 0 0 0 0;clerk 0 0 0 0 0 0;");
    }

    /** FAULT 5 "a second 'slack', 'lays', 'moulds'" */
    private static void onceOnly() {
        String[] lines = {"slack 1;", "lays 1;", "moulds 1;"};
        String[] words = {"slack", "lays", "moulds"};
        for (int i = 0; i < 3; i++) {
            CHECK.of(lines[i]);
            CHECK.of(lines[i] + lines[(i + 1) % 3] + lines[(i + 2) % 3]);
            CHECK.fault(lines[i] + words[i], 5, lines[i].length());
            CHECK.fault(lines[i] + " " + words[i] + " x", 5, lines[i].length() + 1);
            CHECK.fault(lines[i] + words[i] + ";", 5, lines[i].length());
            CHECK.fault(lines[i] + lines[(i + 1) % 3] + "sheet 0 0 0;" + lines[i], 5,
                lines[i].length() + lines[(i + 1) % 3].length() + 12);
        }
        CHECK.fault("slack 0;slack 0;", 5, 8);
        CHECK.fault("lays 0;lays 0;", 5, 7);
        CHECK.fault("moulds 0;moulds 0;", 5, 9);
        TwinInk x = new TwinInk();
        for (int i = 0; i < 3; i++) {
            CHECK.is("each office may tell them once", Check.tell(x, lines[i] + lines[(i + 1) % 3]), 0);
            CHECK.is("once more", Check.tell(x, lines[i]), 0);
            CHECK.is("twice", Check.tell(x, lines[i] + lines[i]), 5);
            CHECK.is("again", Check.tell(x, lines[i]), 0);
        }
    }

    // ---- words

    /** FAULT 3 "a SHEET that isn't told ahead" */
    private static void sheetsToldAhead() {
        for (int many = 1; many <= 9; many++) {
            String sheets = "sheet 0 0 0;".repeat(many);
            int at = sheets.length() + 5;
            CHECK.fault(sheets + "word " + many + " 0;", 3, at);
            CHECK.fault(sheets + "word 0 " + many + ";", 3, at + 2);
            if (many > 1) {
                CHECK.of(sheets + "word " + (many - 1) + " 0;");
                CHECK.of(sheets + "word 0 " + (many - 1) + ";");
            }
            CHECK.fault(sheets + "word 9999 0;", 3, at);
            CHECK.fault(sheets + "word 0 9999;", 3, at + 2);
        }
        CHECK.fault("word 0 1;sheet 0 0 0;sheet 0 0 0;", 3, 5);
        CHECK.fault("sheet 0 0 0;word 0 1;sheet 0 0 0;", 3, 19);
        CHECK.of("sheet 0 0 0;sheet 0 0 0;word 0 1;sheet 0 0 0;word 2 1;");
        // A text that came ahead has no part in what is told by this one.
        TwinInk x = CHECK.of(TWO);
        CHECK.is("SHEETS of another text", Check.tell(x, "word 0 1;"), 3);
    }

    /** FAULT 4 "the second SHEET of a WORD that is the first one, or with which there is a WORD of just these two, left and right" */
    private static void wordsOfTheSame() {
        String three = TWO + "sheet 0 0 0;";
        int at = three.length();
        for (int i = 0; i < 3; i++) {
            CHECK.fault(three + "word " + i + " " + i + ";", 4, at + 7);
        }
        String all = "word 0 1;word 1 0;word 0 2;word 2 0;word 1 2;word 2 1;";
        CHECK.of(three + all);
        for (int i = 0; i < 6; i++) {
            CHECK.fault(three + all + all.substring(9 * i, 9 * i + 9), 4, at + all.length() + 7);
        }
        CHECK.fault(three + "word 0 1;word 00 01;", 4, at + 9 + 8);
        TwinInk x = CHECK.of(three + "word 0 1;");
        CHECK.is("a WORD of another text", Check.tell(x, three + "word 0 1;"), 0);
    }

    // ---- which fault

    /** Every beginning of a text: where it ends too soon, the place is its length, which is n and not the tape's. */
    private static void endsTooSoon() {
        String text = "slack 1;lays (1+day)<2; ";
        int[] codes = {0, 1, 1, 1, 1, 1, 1, 1, 0, 1, 1, 1, 1, 1, 1, 1, 1, 3, 3, 1, 1, 1, 1, 0, 0};
        int[] places = {NONE, 0, 0, 0, 0, 5, 6, 7, NONE, 8, 8, 8, 12, 13, 14, 15, 16, 16, 16, 19, 20, 21, 22, NONE, NONE};
        for (int n = 0; n <= text.length(); n++) {
            TwinInk x = fed(text + " ".repeat(16));
            CHECK.is("office(" + n + ")", x.office(n), codes[n]);
            CHECK.is("fault of office(" + n + ")", x.fault(), places[n]);
        }
        CHECK.fault("sheet 0 0 0;sheet 0 0 0;word 0 1", 1, 32);
        CHECK.fault("clerk 0   ", 1, 10);
        CHECK.fault("moulds not", 1, 10);
        CHECK.fault("moulds 1 and\n", 1, 13);
    }

    /** "FAULTS, the first along the text, at a TOKEN's first byte" */
    private static void firstAlongTheText() {
        CHECK.fault("slack 9;slack 1;", 2, 6);
        CHECK.fault("slack 1;slack 9;", 5, 8);
        CHECK.fault("word 0 1;sheet 256 0 0;", 3, 5);
        CHECK.fault("sheet 256 0 0;word 0 1;", 2, 6);
        CHECK.fault("sheet 256 x 0;", 2, 6);
        CHECK.fault("sheet x 256 0;", 1, 6);
        CHECK.fault("lays left+12345+);", 3, 5);
        CHECK.fault("lays 12345+left;", 2, 5);
        CHECK.fault("lays )+left;", 1, 5);
        CHECK.fault(TWO + "word 0 0;word 0 9;", 4, 31);
        CHECK.fault(TWO + "word 0 9;word 0 0;", 3, 31);
        CHECK.fault("  slack   99 ;", 2, 10);
        CHECK.fault("clerk 0 1 2 3 0 4 7;", 2, 16);
        TwinInk x = new TwinInk();
        CHECK.is("fault() ahead of any office", x.fault(), NONE);
        Check.tell(x, "slack 9;");
        CHECK.is("fault() of the latest", x.fault(), 6);
        Check.tell(x, "lays 1;;");
        CHECK.is("fault() of the latest one then", x.fault(), 7);
        CHECK.illegal("no office", () -> x.office(1));
        CHECK.is("fault() behind what was none", x.fault(), 7);
        Check.tell(x, "");
        CHECK.is("fault() without", x.fault(), NONE);
    }

    /** "of one TOKEN the least" */
    private static void leastOfOneToken() {
        // 1 ahead of 2: a NUMBER of 5 digits where none can stand.
        CHECK.fault("12345;", 1, 0);
        CHECK.fault("slack 1 12345;", 1, 8);
        CHECK.fault("lays 1 12345;", 1, 7);
        // 1 ahead of 2: the 10th SHEET's word, the 7th 'not', where they can't stand.
        CHECK.fault("sheet 0 0 0;".repeat(9) + "slack sheet", 1, 114);
        CHECK.fault("lays not not not not not not 1 not;", 1, 31);
        // 1 ahead of 2: what can't begin an EXPR within 6 others.
        CHECK.fault("lays (((((()", 1, 11);
        // 1 ahead of 3: a word that is no VALUE where no PART must stand.
        CHECK.fault("lays 1 left;", 1, 7);
        CHECK.fault("slack left;", 1, 6);
        // 1 ahead of 5: a second 'slack' where no LINE begins.
        CHECK.fault("slack 1 slack", 1, 8);
        CHECK.fault("lays 1 lays;", 1, 7);
        CHECK.fault("lays 1;slack lays;", 1, 13);
        // 2 ahead of 3: a SHEET of 5 digits; a word that is no VALUE as the first TOKEN within 6 others.
        CHECK.fault("word 12345 0;", 2, 5);
        CHECK.fault(TWO + "word 0 12345;", 2, 31);
        CHECK.fault("lays ((((((left", 2, 11);
        // 2 ahead of 4: a SHEET of 5 digits that would be the first one, or make the same WORD.
        CHECK.fault(TWO + "word 0 00000;", 2, 31);
        CHECK.fault(TWO + "word 0 1;word 0 00001;", 2, 40);
        // 3 ahead of 5: 'lays' within 'lays'.
        CHECK.fault("lays lays;", 3, 5);
        CHECK.fault("moulds 1+moulds;", 3, 9);
        CHECK.fault("slack 1;lays slack;", 3, 13);
    }

    // ---- expressions

    /** FAULT 2 "of an EXPR within 6 others (a NUMBER, any word, a parenthesis)" */
    private static void nested() {
        for (String rule : new String[] {"lays ", "moulds "}) {
            for (String ahead : new String[] {"", "not ", "1+", "1<", "1 or ", "1 and not ", "((1))*", "(((((1)))))/"}) {
                String begun = rule + ahead;
                for (int deep = 0; deep <= 5; deep++) {
                    CHECK.of(begun + "(".repeat(deep) + "day" + ")".repeat(deep) + ";");
                    CHECK.of(begun + "(".repeat(deep) + "7" + ")".repeat(deep) + "+1;");
                }
                int at = begun.length() + 6;
                for (String first : new String[] {"7", "9999", "10000", "day", "x", "or", "and", "not", "sheet", "slack", "("}) {
                    CHECK.fault(begun + "((((((" + first, 2, at);
                    CHECK.fault(begun + "(((((( " + first + "))))));", 2, at + 1);
                }
                for (String first : new String[] {")", ";", "+", "-", "*", "/", "<", "=", "#", "Z"}) {
                    CHECK.fault(begun + "((((((" + first, 1, at);
                }
                CHECK.fault(begun + "((((((", 1, at);
            }
            CHECK.fault(rule + "(((((1+(2", 2, rule.length() + 8);
            CHECK.fault(rule + "(((((1)+(2)", 1, rule.length() + 11);
            CHECK.of(rule + "(((1)+(2))+((3)))*(((((not 4)))));");
            CHECK.fault(rule + "(not(1<(1+(1 and(1 or(1", 2, rule.length() + 22);
        }
    }

    /** FAULT 2 "the seventh 'not' side by side" */
    private static void nots() {
        for (int many = 0; many <= 6; many++) {
            CHECK.of("lays " + "not ".repeat(many) + "1;");
            CHECK.of("lays 1 or " + "not ".repeat(many) + "1 and " + "not ".repeat(6) + "(" + "not ".repeat(6) + "1);");
        }
        for (int more = 7; more <= 20; more++) {
            CHECK.fault("lays " + "not ".repeat(more) + "1;", 2, 29);
        }
        CHECK.fault("lays 1 and " + "not ".repeat(7) + "1;", 2, 35);
        CHECK.fault("lays 1 and(" + "not ".repeat(7) + "1);", 2, 35);
        CHECK.fault("lays " + "not\n".repeat(6) + " not", 2, 30);
        CHECK.fault("lays " + "not ".repeat(6) + "or;", 3, 29);
        CHECK.fault("lays " + "not ".repeat(6) + ";", 1, 29);
        CHECK.fault("lays " + "not ".repeat(6), 1, 29);
        CHECK.fault("lays " + "not ".repeat(6) + "1+not 1;", 3, 31);
    }

    /** FAULT 3 "any word where a PART must stand that is no VALUE of this EXPR" */
    private static void parts() {
        String[] ofTowns = {"town", "sheets", "clerks", "known", "day"};
        String[] ofSheets = {"left", "right", "sheet", "town", "borne", "day"};
        String[] none = {"or", "and", "slack", "lays", "moulds", "word", "clerk", "a", "z", "towns", "tow", "own", "days", "da",
            "knows", "nown", "bornes", "orne", "lefts", "rights", "notday"};
        String[] ahead = {"", "not ", "(", "1+", "1-", "1*", "1/", "1<", "1=", "1 or ", "1 and ", "(1)*(1+("};
        for (String a : ahead) {
            for (String value : ofTowns) {
                value("lays ", a, value, true);
                value("moulds ", a, value, value.equals("town") || value.equals("day"));
            }
            for (String value : ofSheets) {
                value("moulds ", a, value, true);
                value("lays ", a, value, value.equals("town") || value.equals("day"));
            }
            for (String word : none) {
                value("lays ", a, word, false);
                value("moulds ", a, word, false);
            }
        }
        for (String a : new String[] {"1+", "1-", "1*", "1/", "1<", "1="}) {
            value("lays ", a, "not", false);
        }
        // One test alone in a NOT; what stands behind it can't.
        CHECK.fault("lays 1<2=3;", 1, 8);
        CHECK.fault("lays 1=2=3;", 1, 8);
        CHECK.fault("lays not 1<2<3;", 1, 12);
        CHECK.of("lays 1<2 and 1=2 or 3<4 and not 5=6;");
        CHECK.of("lays (1<2)<(3=4);");
    }

    private static void value(String rule, String ahead, String value, boolean isOne) {
        int open = ahead.length() - ahead.replace("(", "").length() - (ahead.length() - ahead.replace(")", "").length());
        String text = rule + ahead + value + ")".repeat(open) + ";";
        CHECK.fault(text, isOne ? 0 : 3, isOne ? NONE : rule.length() + ahead.length());
    }

    // ---- an office anew

    /** "all anew: 0 .. ACTS, what is HEARD, the image are gone (STATUS stays)." */
    private static void allAnew() {
        TwinInk x = CHECK.of("sheet 1 1 0;sheet 1 1 0;sheet 2 2 1;clerk 0 1 2;clerk 0;word 0 1;word 1 0;slack 8;lays 1;moulds 1;");
        x.days(3);
        x.take(1, 0);
        x.forge(1, 0, 4);
        x.fire(1);
        x.hear(0, 0, 0, true);
        x.image();
        String next = "sheet 3 3 0;sheet 3 3 0;sheet 3 3 0;clerk 0;word 1 2;";
        CHECK.is("another office", Check.tell(x, next), 0);
        CHECK.is("it is as a new object's", State.of(x), State.of(CHECK.of(next)));
        CHECK.is("no image", State.restored(x), "no image");
        CHECK.is("no ACTS", State.undone(x), "");
        x.days(1);
        CHECK.is("without LAYS always", x.clerk(0, 1), 1);
        CHECK.is("without MOULDS never", x.sheet(0, 1), 3);
        CHECK.is("an office of nothing", Check.tell(x, ""), 0);
        CHECK.is("is as a new object", State.of(x), State.of(new TwinInk()));
    }

    /** "all anew": many offices one behind the other, with refused ones between them, each as by a new object. */
    private static void officeByOffice() {
        String[] texts = {
            "sheet 1 1 0;sheet 1 1 0;sheet 2 2 3;clerk 0 1 2;clerk 3 3;word 0 1;word 1 0;slack 2;lays day<3;moulds sheet+1;",
            "sheet 5 5 1;sheet 5 5 1;clerk 1;clerk 1 2 3 0 1 2;word 1 0;lays known+2<2*(day+1);",
            "clerk 2 0;sheet 3 3 2;sheet 3 3 2;word 0 1;moulds 8;",
            "sheet 9 8 0;",
            "slack 8;sheet 0 255 0;sheet 0 255 1;clerk 0 1;word 0 1;lays 0;",
            "",
            "sheet 7 7 3;sheet 7 7 3;clerk 3;clerk 3 0;clerk 0 3;word 1 0;moulds day=2 and sheet;"};
        String[] refused = {"sheet 1 1 1;clerk 3 3 3 3;slack 7;lays 0;moulds 5;;", "clerk 0 0 0 0 0 0 0;", "lays 1+;", "slack 5"};
        for (int shift = 1; shift < texts.length; shift++) {
            TwinInk x = new TwinInk();
            for (int i = 0; i < 8; i++) {
                String text = texts[(i * shift + i / 3) % texts.length];
                CHECK.is("office of '" + text + "'", Check.tell(x, text), 0);
                TwinInk due = CHECK.of(text);
                CHECK.is("'" + text + "' anew", tellsOfDays(x), tellsOfDays(due));
                CHECK.is("a refused text", Check.tell(x, refused[i % 4]) != 0, true);
            }
        }
    }

    /** A shorter rule leaves nothing of a longer one that stood in its place two texts ahead. */
    private static void ruleByRule() {
        String sheets = "sheet 1 1 0;sheet 1 1 0;clerk 0;word 0 1;";
        for (String longer : new String[] {"not 1", "1 and 0", "1-1", "not(1+1)", "0*2/3"}) {
            TwinInk x = new TwinInk();
            for (String rule : new String[] {longer, "0", "1", longer, longer, "1", "2", "0"}) {
                boolean lays = rule.equals("1") || rule.equals("2");
                CHECK.is("lays " + rule, Check.tell(x, sheets + "lays " + rule + ";"), 0);
                CHECK.is("FIRST by lays " + rule + " behind " + longer, x.first(0, 0), lays ? 1 : NONE);
                CHECK.is("moulds " + rule, Check.tell(x, sheets + "moulds " + rule + ";"), 0);
                CHECK.is("MOULD by moulds " + rule + " behind " + longer, x.mould(1), lays ? 1 : NONE);
                CHECK.is("without LAYS always", x.first(0, 0), 1);
            }
        }
    }

    /** What is told of clerks, words and both rules in some days, few enough calls for eight offices of one object. */
    private static String tellsOfDays(TwinInk x) {
        StringBuilder b = new StringBuilder();
        for (int what = 0; what <= 3; what++) {
            b.append(x.count(what)).append(' ');
        }
        for (int clerk = 0; clerk < x.count(1); clerk++) {
            b.append(x.clerk(clerk, 3)).append(x.clerk(clerk, 0)).append(' ');
        }
        for (int days = 1; days <= 6; days++) {
            b.append(x.read(days, 0)).append(' ');
        }
        x.days(6);
        for (int sheet = 0; sheet < x.count(0); sheet++) {
            b.append(x.sheet(sheet, 0)).append(' ').append(x.sheet(sheet, 1)).append(' ').append(x.sheet(sheet, 4)).append(' ');
        }
        for (int clerk = 0; clerk < x.count(1); clerk++) {
            b.append(x.clerk(clerk, 1)).append(x.clerk(clerk, 0)).append(' ');
        }
        return b.append(x.odd(2)).append(x.count(4)).toString();
    }
}
