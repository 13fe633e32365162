/** Part 3 of "Terms" and promises 16 to 27, 35, 40 and 42, sentence by sentence, at their edges. */
public final class AheadEdgeTest {
    private static final Check CHECK = new Check();
    private static final int NONE = TwinInk.NONE;
    /** A word that clerk 0 comes to know on the day that is written behind it. */
    private static final String LEARNT = "sheet 1 1 0;sheet 1 1 0;clerk 0;word 0 1;lays day=";

    public static void main(String[] args) {
        then();
        where();
        first();
        read();
        secret();
        mould();
        meet();
        gathering();
        fitting();
        row();
        couples();
        toForge();
        lost();
        toSave();
        toRead();
        chain();
        wisest();
        unread();
        laid();
        fromNowOn();
        CHECK.end();
    }

    /** "THEN, in so many DAYS (0 to 40): in which TOWN a CLERK is; WORDS that one KNOWS (bits)" */
    private static void then() {
        TwinInk x = CHECK.of(LEARNT + "39;");
        CHECK.is("WORDS in 39", x.then(0, 39, 1), 0);
        CHECK.is("WORDS in 40", x.then(0, 40, 1), 1);
        TwinInk first = CHECK.of(LEARNT + "0;");
        CHECK.is("WORDS in 0", first.then(0, 0, 1), 0);
        CHECK.is("WORDS in 1", first.then(0, 1, 1), 1);
        TwinInk all = CHECK.of("sheet 1 1 0;".repeat(9) + twelveWords() + "clerk 0;");
        CHECK.is("all twelve WORDS", all.then(0, 1, 1), 4095);
        TwinInk round = CHECK.of("clerk 3 2 1 0 1 2;");
        for (int days = 0; days <= 40; days++) {
            CHECK.is("TOWN in " + days, round.then(0, days, 0), new int[] {3, 2, 1, 0, 1, 2}[days % 6]);
        }
        CHECK.illegal("in -1", () -> x.then(0, -1, 0));
        CHECK.illegal("in 41", () -> x.then(0, 41, 0));
        CHECK.illegal("WORDS in -1", () -> x.then(0, -1, 1));
        CHECK.illegal("WORDS in 41", () -> x.then(0, 41, 1));
        CHECK.noSuch("no such what, ahead of the DAYS", () -> x.then(0, 41, 2));
        CHECK.noSuch("no such CLERK, ahead of the DAYS", () -> x.then(1, -1, 0));
    }

    private static String twelveWords() {
        StringBuilder b = new StringBuilder();
        for (int i = 0; i < 12; i++) {
            b.append("word ").append(i % 4).append(' ').append(4 + i / 4).append(';');
        }
        return b.toString();
    }

    /** "where a SHEET is"; "NONE: BURNT" */
    private static void where() {
        TwinInk x = CHECK.of("sheet 1 1 3;sheet 1 1 0;sheet 1 1 2;clerk 0 1 2 3 1;");
        x.take(0, 1);
        x.fire(2);
        for (int days = 0; days <= 40; days++) {
            CHECK.is("in the archive, in " + days, x.where(0, days), 3);
            CHECK.is("borne, in " + days, x.where(1, days), new int[] {0, 1, 2, 3, 1}[days % 5]);
            CHECK.is("BURNT, in " + days, x.where(2, days), NONE);
        }
        CHECK.illegal("BURNT, in 41", () -> x.where(2, 41));
        CHECK.illegal("in -1", () -> x.where(0, -1));
        CHECK.noSuch("no such SHEET, ahead of the DAYS", () -> x.where(3, 41));
    }

    /** "FIRST: in how many DAYS (0 to 40) a CLERK KNOWS a WORD first; none." */
    private static void first() {
        for (int day : new int[] {0, 1, 38, 39}) {
            CHECK.is("FIRST by DAY " + day, CHECK.of(LEARNT + day + ";").first(0, 0), day + 1);
        }
        TwinInk late = CHECK.of(LEARNT + "40;");
        CHECK.is("in 41 is none", late.first(0, 0), NONE);
        late.days(1);
        CHECK.is("in 40 from the next DAY", late.first(0, 0), 40);
        late.days(20);
        late.days(20);
        CHECK.is("0: one KNOWS it", late.first(0, 0), 0);
        TwinInk never = CHECK.of(LEARNT + "0-1;");
        CHECK.is("never", never.first(0, 0), NONE);
    }

    /** "READ in so many DAYS (0 to 40): WORDS that some CLERK KNOWS, as bits." */
    private static void read() {
        TwinInk x = CHECK.of(LEARNT + "39;");
        CHECK.is("READ in 0", x.read(0, 0), 0);
        CHECK.is("READ in 39", x.read(39, 0), 0);
        CHECK.is("READ in 40", x.read(40, 0), 1);
        CHECK.is("SECRET in 39", x.read(39, 1), 0);
        CHECK.is("SECRET in 40", x.read(40, 1), 1);
        CHECK.is("nothing is READ without CLERKS", CHECK.of("sheet 1 1 0;sheet 1 1 0;word 0 1;").read(40, 0), 0);
        CHECK.is("nothing is SECRET without CLERKS", CHECK.of("sheet 1 1 0;sheet 1 1 0;word 0 1;").read(40, 1), 0);
        CHECK.is("nothing is READ without WORDS", CHECK.of("clerk 0;").read(0, 0), 0);
        CHECK.illegal("READ in -1", () -> x.read(-1, 0));
        CHECK.illegal("READ in 41", () -> x.read(41, 0));
        CHECK.noSuch("what 2, ahead of the DAYS", () -> x.read(41, 2));
        CHECK.noSuch("what -1, ahead of the DAYS", () -> x.read(-1, -1));
    }

    /** "SECRET then: WORDS that just one CLERK KNOWS" */
    private static void secret() {
        for (int many = 0; many <= 6; many++) {
            TwinInk x = CHECK.of("sheet 1 1 0;sheet 1 1 0;sheet 1 1 1;sheet 1 1 1;" + "clerk 0;".repeat(many)
                + "clerk 1;".repeat(6 - many) + "word 0 1;word 2 3;");
            CHECK.is("SECRET, if " + many + " KNOW word 0", x.read(1, 1), (many == 1 ? 1 : 0) | (many == 5 ? 2 : 0));
            CHECK.is("READ, if " + many + " KNOW word 0", x.read(1, 0), (many > 0 ? 1 : 0) | (many < 6 ? 2 : 0));
        }
    }

    /** "DAY of MOULD: in how many DAYS (1 to 40) a SHEET's RIGHT EDGE first isn't as it is now; none." */
    private static void mould() {
        for (int day : new int[] {0, 1, 38, 39}) {
            CHECK.is("MOULD by DAY " + day, CHECK.of("sheet 1 1 0;moulds day=" + day + ";").mould(0), day + 1);
        }
        CHECK.is("in 41 is none", CHECK.of("sheet 1 1 0;moulds day=40;").mould(0), NONE);
        CHECK.is("never", CHECK.of("sheet 1 1 0;moulds 0;").mould(0), NONE);
        CHECK.is("without MOULDS", CHECK.of("sheet 1 1 0;").mould(0), NONE);
        TwinInk x = CHECK.of("sheet 1 1 0;moulds day=2;");
        x.days(3);
        CHECK.is("as it is now, not as told", x.mould(0), NONE);
        TwinInk burnt = CHECK.of("sheet 1 1 0;moulds 1;");
        burnt.fire(0);
        CHECK.is("BURNT", burnt.mould(0), NONE);
        TwinInk borne = CHECK.of("sheet 1 1 0;clerk 0 1 2;moulds town=2;");
        CHECK.is("never in that TOWN", borne.mould(0), NONE);
        borne.take(0, 0);
        CHECK.is("borne there", borne.mould(0), 3);
    }

    /** "MEET: in how many DAYS (0 to 40) two SHEETS are in one TOWN first; none."; "NONE: none, both are one." */
    private static void meet() {
        TwinInk x = CHECK.of("sheet 1 1 0;sheet 1 1 0;sheet 1 1 1;sheet 1 1 2;clerk 0 0 0 0 0 3;clerk 1 1 1 1 3;clerk 2;");
        CHECK.is("in one archive", x.meet(0, 1), 0);
        CHECK.is("in two archives", x.meet(0, 2), NONE);
        CHECK.is("both are one", x.meet(1, 1), NONE);
        x.take(0, 0);
        x.take(1, 2);
        x.take(2, 3);
        CHECK.is("rounds of 6 and 5 that meet on their last TOWNS", x.meet(0, 2), 29);
        CHECK.is("the other way about", x.meet(2, 0), 29);
        CHECK.is("never", x.meet(2, 3), NONE);
        x.days(20);
        x.days(9);
        CHECK.is("on this DAY", x.meet(0, 2), 0);
        x.days(1);
        CHECK.is("29 DAYS behind the next one", x.meet(0, 2), 29);
        x.fire(0);
        CHECK.is("one is BURNT", x.meet(0, 1), NONE);
        CHECK.is("both are one, BURNT", x.meet(1, 1), NONE);
        CHECK.noSuch("no such other", () -> x.meet(0, 4));
        CHECK.noSuch("both are one that isn't there", () -> x.meet(4, 4));
        CHECK.noSuch("both are one below 0", () -> x.meet(-1, -1));
    }

    /** "GATHERING in so many DAYS (0 to 40): the TOWN in which most SHEETS are then, borne or not (of like ones the least)." */
    private static void gathering() {
        CHECK.is("without SHEETS", new TwinInk().gathering(0), 0);
        for (int town = 0; town < 4; town++) {
            CHECK.is("one SHEET", CHECK.of("sheet 1 1 " + town + ";").gathering(40), town);
            for (int other = 0; other < 4; other++) {
                TwinInk x = CHECK.of("sheet 1 1 " + town + ";sheet 1 1 " + other + ";");
                CHECK.is("two SHEETS", x.gathering(0), Math.min(town, other));
                TwinInk more = CHECK.of("sheet 1 1 " + town + ";sheet 1 1 " + other + ";sheet 1 1 " + town + ";");
                CHECK.is("three SHEETS", more.gathering(0), town);
            }
        }
        TwinInk x = CHECK.of("sheet 1 1 2;sheet 1 1 3;clerk 3 2 1;");
        x.take(0, 1);
        CHECK.is("one borne in 3", x.gathering(0), 2);
        CHECK.is("borne to 2", x.gathering(1), 2);
        CHECK.is("borne to 1", x.gathering(2), 1);
        CHECK.is("borne, in 40", x.gathering(40), 2);
        CHECK.is("borne, in 38", x.gathering(38), 1);
        x.fire(2);
        CHECK.is("BURNT ones are nowhere", x.gathering(0), 3);
        x.leave(0, 1);
        x.fire(3);
        CHECK.is("all are BURNT", x.gathering(0), 0);
        CHECK.illegal("in -1", () -> x.gathering(-1));
        CHECK.illegal("in 41", () -> x.gathering(41));
        CHECK.illegal("in 41 without SHEETS", () -> new TwinInk().gathering(41));
    }

    /** "FITTING of a SHEET: others left of which it FITS (bits)" */
    private static void fitting() {
        TwinInk nine = CHECK.of("sheet 1 1 0;sheet 1 1 1;sheet 1 1 2;".repeat(3));
        for (int sheet = 0; sheet < 9; sheet++) {
            CHECK.is("all others", nine.sheet(sheet, 4), 511 & ~(1 << sheet));
        }
        nine.fire(1);
        for (int sheet = 0; sheet < 9; sheet++) {
            CHECK.is("all others but BURNT ones", nine.sheet(sheet, 4), sheet % 3 == 1 ? 0 : 0b101101101 & ~(1 << sheet));
        }
        CHECK.is("itself alone", CHECK.of("sheet 1 1 0;").sheet(0, 4), 0);
        TwinInk two = CHECK.of("sheet 1 2 0;sheet 2 3 1;");
        CHECK.is("left of it", two.sheet(0, 4), 2);
        CHECK.is("not right of it", two.sheet(1, 4), 0);
    }

    private static void isRow(String text, int... due) {
        TwinInk x = CHECK.of(text);
        CHECK.is("the row of '" + text + "'", x.row(NONE), due.length);
        for (int i = 0; i < due.length; i++) {
            CHECK.is("row(" + i + ") of '" + text + "'", x.row(i), due[i]);
        }
        CHECK.noSuch("row(" + due.length + ") of '" + text + "'", () -> x.row(due.length));
        CHECK.noSuch("row(-2) of '" + text + "'", () -> x.row(-2));
    }

    /** "A ROW: .. the most that can lie so (where they are doesn't count): how many; the i-th: of like ones the first row." */
    private static void row() {
        isRow("");
        isRow("sheet 1 2 3;", 0);
        isRow("sheet 1 1 3;", 0);
        isRow("sheet 1 2 0;sheet 3 4 1;", 0);
        isRow("sheet 1 2 0;sheet 2 4 1;", 0, 1);
        isRow("sheet 2 4 0;sheet 1 2 1;", 1, 0);
        isRow("sheet 1 2 0;sheet 2 1 1;", 0, 1);
        isRow("sheet 1 2 0;sheet 2 4 1;sheet 4 8 2;sheet 8 16 3;sheet 16 32 0;sheet 32 64 1;sheet 64 128 2;sheet 128 3 3;sheet 3 5 0;",
            0, 1, 2, 3, 4, 5, 6, 7, 8);
        isRow("sheet 3 5 0;sheet 128 3 3;sheet 64 128 2;sheet 32 64 1;sheet 16 32 0;sheet 8 16 3;sheet 4 8 2;sheet 2 4 1;sheet 1 2 0;",
            8, 7, 6, 5, 4, 3, 2, 1, 0);
        // Of two rows of two the one with the lesser first SHEET; of those the one with the lesser second.
        isRow("sheet 9 1 0;sheet 9 1 0;sheet 1 7 0;sheet 1 7 0;", 0, 2);
        isRow("sheet 1 7 0;sheet 9 1 0;sheet 1 7 0;sheet 9 1 0;", 1, 0);
        for (int many = 2; many <= 9; many++) {
            int[] due = new int[many];
            for (int i = 0; i < many; i++) {
                due[i] = i;
            }
            isRow("sheet 1 1 0;".repeat(many), due);
        }
        TwinInk x = CHECK.of("sheet 1 2 0;sheet 2 4 1;sheet 4 8 2;");
        x.fire(1);
        CHECK.is("without the BURNT one", x.row(NONE), 1);
        CHECK.is("of like ones the first", x.row(0), 0);
        x.fire(0);
        CHECK.is("the one that is left", x.row(0), 2);
        x.fire(2);
        CHECK.is("all are BURNT", x.row(NONE), 0);
        CHECK.noSuch("there is none", () -> x.row(0));
    }

    /** "COUPLES: two and two of which one FITS left of the other one, this way or that, each SHEET in one: the most" */
    private static void couples() {
        for (int many = 0; many <= 9; many++) {
            CHECK.is(many + " alike", CHECK.of("sheet 1 1 0;".repeat(many)).count(8), many / 2);
            CHECK.is(many + " strange ones", CHECK.of("sheet 1 2 0;".repeat(many)).count(8), 0);
        }
        CHECK.is("this way", CHECK.of("sheet 1 2 0;sheet 2 3 3;").count(8), 1);
        CHECK.is("that way", CHECK.of("sheet 2 3 0;sheet 1 2 3;").count(8), 1);
        // Eight in a path: the couples that begin at its second one would be one fewer.
        CHECK.is("a path of eight", CHECK.of("sheet 2 4 1;sheet 1 2 0;sheet 4 8 2;sheet 8 16 3;sheet 16 32 0;sheet 32 64 1;"
            + "sheet 64 128 2;sheet 128 3 3;").count(8), 4);
        CHECK.is("eight beside one", CHECK.of("sheet 255 7 0;" + "sheet 7 56 1;".repeat(8)).count(8), 1);
        TwinInk x = CHECK.of("sheet 1 1 0;sheet 1 1 1;sheet 1 1 1;sheet 1 1 2;");
        x.fire(0);
        CHECK.is("three are left", x.count(8), 1);
        x.fire(1);
        CHECK.is("one is left", x.count(8), 0);
    }

    /** "TO FORGE: at how many STEPS .. at least"; "NONE: one is BURNT, both are one." */
    private static void toForge() {
        TwinInk x = CHECK.of("sheet 0 255 0;sheet 0 255 1;sheet 255 0 2;");
        CHECK.is("all eight", x.toForge(0, 1), 8);
        CHECK.is("none", x.toForge(0, 2), 0);
        CHECK.is("both are one", x.toForge(2, 2), NONE);
        x.fire(1);
        CHECK.is("the right one is BURNT", x.toForge(0, 1), NONE);
        CHECK.is("the left one is BURNT", x.toForge(1, 0), NONE);
        CHECK.is("both are one, BURNT", x.toForge(1, 1), NONE);
        x.fire(2);
        CHECK.is("both are BURNT", x.toForge(1, 2), NONE);
        CHECK.noSuch("both are one that isn't there", () -> x.toForge(3, 3));
        CHECK.noSuch("BURNT, and one that isn't there", () -> x.toForge(1, 3));
        CHECK.is("SLACK 8", CHECK.of("sheet 0 255 0;sheet 0 255 0;slack 8;").toForge(0, 1), 0);
        CHECK.is("SLACK 7", CHECK.of("sheet 0 255 0;sheet 0 255 0;slack 7;").toForge(0, 1), 1);
    }

    /** "LOST by a FIRE in a TOWN now: WORDS neither of whose SHEETS is BURNT now, and one at least would be by it (bits)." */
    private static void lost() {
        TwinInk x = CHECK.of("sheet 1 2 0;sheet 1 2 0;sheet 1 2 1;sheet 1 2 2;clerk 0;word 0 1;word 1 2;word 2 3;word 3 0;word 2 0;");
        CHECK.is("both there, or one", x.town(0, 4), 0b11011);
        CHECK.is("the right one, or the left one", x.town(1, 4), 0b10110);
        CHECK.is("TOWN 2", x.town(2, 4), 0b01100);
        CHECK.is("none there", x.town(3, 4), 0);
        x.take(0, 0);
        CHECK.is("borne ones aren't BURNT", x.town(0, 4), 0b00011);
        x.fire(1);
        CHECK.is("LOST by now", x.town(0, 4), 0b00001);
        CHECK.is("an empty archive", x.town(1, 4), 0);
        CHECK.is("one of BURNT ones", x.town(2, 4), 0b01000);
        x.fire(0);
        CHECK.is("nothing more", x.town(0, 4), 0);
    }

    /** "TO SAVE .. the SHEET in its archive by whose being borne elsewhere .. fewest WORDS are LOST, if fewer than without that */
    private static void toSave() {
        CHECK.is("without SHEETS", new TwinInk().toSave(3), NONE);
        CHECK.is("without WORDS", CHECK.of("sheet 1 1 3;").toSave(3), NONE);
        CHECK.is("just one fewer", CHECK.of("sheet 1 1 3;sheet 1 1 0;word 0 1;").toSave(3), 0);
        CHECK.is("the other TOWN's", CHECK.of("sheet 1 1 3;sheet 1 1 0;word 0 1;").toSave(0), 1);
        CHECK.is("no fewer: both are there", CHECK.of("sheet 1 1 3;sheet 1 1 3;word 0 1;").toSave(3), NONE);
        String text = "sheet 1 1 3;sheet 1 1 3;sheet 1 1 3;sheet 1 1 0;clerk 3;clerk 0;";
        CHECK.is("of like ones the least", CHECK.of(text + "word 1 3;word 3 2;").toSave(3), 1);
        CHECK.is("fewest", CHECK.of(text + "word 1 3;word 3 2;word 2 3;").toSave(3), 2);
        CHECK.is("what both bear counts for neither", CHECK.of(text + "word 0 1;word 1 2;word 0 3;").toSave(3), 0);
        TwinInk x = CHECK.of(text + "word 0 3;word 1 3;word 3 1;");
        CHECK.is("two by one", x.toSave(3), 1);
        x.take(0, 1);
        CHECK.is("of those in the archive", x.toSave(3), 0);
        x.take(0, 0);
        CHECK.is("none by the third", x.toSave(3), NONE);
        x.take(0, 2);
        CHECK.is("an empty archive", x.toSave(3), NONE);
        x.fire(0);
        x.leave(0, 0);
        CHECK.is("LOST by now", x.toSave(3), NONE);
    }

    /** "TO READ: the fewest SHEETS, so that, were they in one TOWN, all WORDS that could SHOW .. did: as bits." */
    private static void toRead() {
        CHECK.is("a new object", new TwinInk().toRead(), 0);
        CHECK.is("without WORDS", CHECK.of("sheet 1 1 0;sheet 1 1 0;").toRead(), 0);
        CHECK.is("one that doesn't FIT", CHECK.of("sheet 1 2 0;sheet 1 2 0;word 0 1;").toRead(), 0);
        CHECK.is("one the other way about", CHECK.of("sheet 1 2 0;sheet 2 3 0;word 1 0;").toRead(), 0);
        TwinInk all = CHECK.of("sheet 1 1 0;sheet 1 1 1;sheet 1 1 2;".repeat(3) + "word 0 1;word 2 3;word 4 5;word 6 7;word 8 0;");
        CHECK.is("all nine", all.toRead(), 511);
        all.fire(2);
        CHECK.is("without BURNT ones' WORDS", all.toRead(), 0b011000011);
        all.fire(0);
        CHECK.is("nothing is left", all.toRead(), 0);
        TwinInk twelve = CHECK.of("sheet 1 1 0;sheet 1 1 1;sheet 1 1 2;".repeat(3) + twelveWords());
        CHECK.is("twelve WORDS of seven SHEETS", twelve.toRead(), 0b001111111);
        twelve.forge(3, 1, 7);
        CHECK.is("without the left one of three", twelve.toRead(), 0b001110111);
        twelve.forge(6, 0, 7);
        CHECK.is("the last three WORDS with what is forged alike alone", twelve.toRead(), 0b001111111);
        twelve.forge(3, 1, 7);
        CHECK.is("none of the last four WORDS", twelve.toRead(), 0b000111111);
    }

    /** "A CHAIN: in how many DAYS (0 to 40) a CLERK would KNOW a WORD first, if on each DAY, ahead of all LAYS, .. told" */
    private static void chain() {
        for (int day : new int[] {0, 1, 38, 39}) {
            CHECK.is("CHAIN by DAY " + day, CHECK.of(LEARNT + day + ";").chain(0, 0), day + 1);
        }
        CHECK.is("in 41 is none", CHECK.of(LEARNT + "40;").chain(0, 0), NONE);
        String two = "sheet 1 1 0;sheet 1 1 0;clerk 0 1;clerk 2 1;word 0 1;lays day=";
        CHECK.is("told in 2", CHECK.of(two + "0;").chain(1, 0), 2);
        CHECK.is("told in 40", CHECK.of(two + "38;").chain(1, 0), 40);
        CHECK.is("told in 42 is none", CHECK.of(two + "40;").chain(1, 0), NONE);
        TwinInk x = CHECK.of(two + "0;");
        x.days(1);
        CHECK.is("one KNOWS it", x.chain(0, 0), 0);
        CHECK.is("told on this DAY", x.chain(1, 0), 1);
        CHECK.is("nothing was told in truth", x.then(1, 40, 1), 0);
        // Ahead of all LAYS: what is laid on a DAY isn't told on it.
        TwinInk late = CHECK.of("sheet 1 1 0;sheet 1 1 0;clerk 0 1;clerk 3;clerk 3 1 2;clerk 0;word 0 1;lays clerks=1 or 0<day;");
        CHECK.is("not laid on the first DAY", late.chain(0, 0), 3);
        CHECK.is("told where they meet, on DAY 7", late.chain(2, 0), 8);
        CHECK.is("told by one who was told, on DAY 9", late.chain(1, 0), 10);
        CHECK.is("by oneself", late.chain(3, 0), 2);
        TwinInk never = CHECK.of("sheet 1 1 0;sheet 1 1 0;clerk 0 1;clerk 3;clerk 2 3;word 0 1;");
        CHECK.is("never told to one who is elsewhere", never.chain(1, 0), NONE);
        CHECK.is("nor by one who doesn't KNOW it", never.chain(2, 0), NONE);
    }

    /** "WISEST in so many DAYS (0 to 40): the CLERK who KNOWS most WORDS (of like ones the least); none." */
    private static void wisest() {
        CHECK.is("no CLERKS", CHECK.of("sheet 1 1 0;").wisest(0), NONE);
        CHECK.is("no CLERKS, in 40", new TwinInk().wisest(40), NONE);
        CHECK.is("one who KNOWS nothing", CHECK.of("clerk 0;").wisest(40), 0);
        CHECK.is("of six who KNOW nothing", CHECK.of("clerk 0;".repeat(6)).wisest(0), 0);
        for (int one = 0; one < 6; one++) {
            TwinInk x = CHECK.of("sheet 1 1 0;sheet 1 1 0;" + "clerk 1;".repeat(one) + "clerk 0;" + "clerk 1;".repeat(5 - one)
                + "word 0 1;lays day=39;");
            CHECK.is("in 39 all are alike", x.wisest(39), 0);
            CHECK.is("in 40", x.wisest(40), one);
        }
        TwinInk many = CHECK.of("sheet 1 1 0;sheet 1 1 0;sheet 1 1 1;sheet 1 1 1;clerk 0;clerk 1;word 2 3;word 0 1;word 1 0;");
        CHECK.is("how many count, not which", many.wisest(1), 0);
        CHECK.illegal("in -1", () -> many.wisest(-1));
        CHECK.illegal("in 41", () -> many.wisest(41));
        CHECK.illegal("no CLERKS, in 41", () -> new TwinInk().wisest(41));
        CHECK.illegal("no CLERKS, in -1", () -> new TwinInk().wisest(-1));
    }

    /** "UNREAD in so many DAYS (0 to 40): for how many WORDS there is no CLERK who KNOWS them." */
    private static void unread() {
        CHECK.is("no WORDS", new TwinInk().unread(40), 0);
        TwinInk none = CHECK.of("sheet 1 1 0;".repeat(9) + twelveWords());
        CHECK.is("no CLERKS", none.unread(40), 12);
        TwinInk all = CHECK.of("sheet 1 1 0;".repeat(9) + twelveWords() + "clerk 0;clerk 0;lays day=39;");
        CHECK.is("in 0", all.unread(0), 12);
        CHECK.is("in 39", all.unread(39), 12);
        CHECK.is("in 40", all.unread(40), 0);
        CHECK.illegal("in -1", () -> all.unread(-1));
        CHECK.illegal("in 41", () -> all.unread(41));
    }

    /** "LAID in so many DAYS (1 to 40): on how many of them some CLERK comes to KNOW a WORD." */
    private static void laid() {
        TwinInk last = CHECK.of(LEARNT + "39;");
        CHECK.is("in 39", last.laid(39), 0);
        CHECK.is("in 40", last.laid(40), 1);
        CHECK.is("in 1", CHECK.of(LEARNT + "0;").laid(1), 1);
        CHECK.is("what is known isn't learnt again", CHECK.of(LEARNT.replace("lays day=", "")).laid(40), 1);
        CHECK.is("without CLERKS", CHECK.of("sheet 1 1 0;sheet 1 1 0;word 0 1;").laid(40), 0);
        CHECK.is("a new object", new TwinInk().laid(1), 0);
        // Six come one after the other; what one learns that another one knows counts, too.
        TwinInk six = CHECK.of("sheet 1 1 0;sheet 1 1 0;clerk 0;clerk 1 0;clerk 1 1 0;clerk 1 1 1 0;clerk 1 1 1 1 0;"
            + "clerk 1 1 1 1 1 0;word 0 1;");
        for (int days = 1; days <= 40; days++) {
            CHECK.is("in " + days, six.laid(days), Math.min(days, 6));
        }
        CHECK.illegal("in 0", () -> six.laid(0));
        CHECK.illegal("in -1", () -> six.laid(-1));
        CHECK.illegal("in 41", () -> six.laid(41));
    }

    /** "(If only DAYS go by, from now on:)": what is asked for is what comes. */
    private static void fromNowOn() {
        String text = "sheet 1 1 0;sheet 1 3 1;sheet 3 1 2;clerk 0 1 2;clerk 2 1;word 0 1;word 1 2;word 2 0;slack 1;"
            + "lays day+known<30;moulds (sheet+day)/7*(sheet+1);";
        for (int days = 1; days <= 40; days++) {
            TwinInk x = CHECK.of(text);
            x.take(0, 0);
            TwinInk y = CHECK.of(text);
            y.take(0, 0);
            for (int left = days; left > 0; left -= 20) {
                y.days(Math.min(20, left));
            }
            CHECK.is("READ in " + days, x.read(days, 0), y.count(7));
            CHECK.is("WORDS in " + days, x.then(1, days, 1), y.clerk(1, 1));
            CHECK.is("TOWN in " + days, x.then(1, days, 0), y.clerk(1, 0));
            CHECK.is("where in " + days, x.where(0, days), y.sheet(0, 2));
            CHECK.is("UNREAD in " + days, x.unread(days), 3 - Integer.bitCount(y.count(7)));
            CHECK.is("WISEST in " + days, x.wisest(days), y.wisest(0));
            CHECK.is("GATHERING in " + days, x.gathering(days), y.gathering(0));
        }
    }
}
