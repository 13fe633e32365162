/** What the rules give: the language of LAYS and MOULDS, and how a DAY asks them. */
public final class RuleTest {
    private static final Check CHECK = new Check();
    private static final int NONE = TwinInk.NONE;

    public static void main(String[] args) {
        signs();
        tests();
        townValues();
        sheetValues();
        mouldSteps();
        order();
        longRules();
        CHECK.end();
    }

    /** The step that this rule changes on the first day tells its value, 1 to 8; 0 if it is not above 0. */
    private static void gives(String rule, int due) {
        TwinInk x = CHECK.of("sheet 3 0 2;moulds " + rule + ";");
        x.days(1);
        CHECK.is("moulds " + rule, x.sheet(0, 1), due <= 0 ? 0 : 1 << (due - 1) % 8);
    }

    private static void signs() {
        gives("1", 1);
        gives("8", 8);
        gives("9", 1);
        gives("9999", 7);
        gives("0", 0);
        gives("0-1", 0);
        gives("2+3*2", 8);
        gives("(2+3)*2", 2);
        gives("9-4-3", 2);
        gives("9-(4-3)", 8);
        gives("24/4/2", 3);
        gives("7/2*2", 6);
        gives("7/2", 3);
        gives("0-7/2+5", 2);
        gives("(0-7)/2+5", 2);
        gives("(0-1)/2+1", 1);
        gives("5/0+2", 2);
        gives("5/(3-3)", 0);
        // These wrap to 704032754, -1295567266 and 1295567266.
        gives("9999*9999*50", 2);
        gives("9999*9999*30", 0);
        gives("0-9999*9999*30", 2);
        // The least int over -1 wraps to itself.
        gives("(0-1024*1024*2048)/(0-1)", 0);
        gives("(0-1024*1024*2048)/(0-1)=0-1024*1024*2048", 1);
    }

    private static void tests() {
        gives("1<2", 1);
        gives("2<2", 0);
        gives("3<2", 0);
        gives("(0-1)<0", 1);
        gives("2=2", 1);
        gives("2=3", 0);
        gives("1+1=2", 1);
        gives("2=1+1", 1);
        gives("not 0", 1);
        gives("not 5", 0);
        gives("not not 5", 1);
        gives("not 1<0", 1);
        gives("not(0-3)", 0);
        gives("3 and 2", 1);
        gives("3 and 0", 0);
        gives("0 and 3", 0);
        gives("(0-3) and (0-2)", 1);
        gives("3 or 2", 1);
        gives("0 or 2", 1);
        gives("0 or 0", 0);
        gives("0-2 or 0", 1);
        gives("1 or 1 and 0", 1);
        gives("(1 or 1) and 0", 0);
        gives("not 1 or 1", 1);
        gives("not(1 or 1)", 0);
        gives("not 1 and 0", 0);
        gives("not(1 and 0)", 1);
        gives("(1 or 0)+(2 and 3)+(not 0)+(1<2)+(3=3)", 5);
        gives("5 or 5 and 5", 1);
        gives("(5)", 5);
        gives("((((4))))", 4);
        gives("0 and 0 or 1", 1);
        gives("0 and (0 or 1)", 0);
    }

    private static void townValues() {
        // Clerk 0 waits in town 1 with a word before him, until the rule holds.
        String base = "sheet 0 0 1;sheet 0 0 1;sheet 9 9 1;sheet 9 9 0;clerk 1;clerk 1 2;word 0 1;word 2 3;slack 0;lays ";
        first(base + "town=1;", 1);
        first(base + "town=0;", NONE);
        first(base + "sheets=3;", 1);
        first(base + "sheets=4;", NONE);
        first(base + "clerks=2;", 1);
        first(base + "clerks=1;", 2);
        first(base + "known=0;", 1);
        first(base + "known;", NONE);
        first(base + "day=7;", 8);
        first(base + "day;", 2);
        first(base + "0;", NONE);
        first(base + "0-1;", NONE);

        TwinInk borne = CHECK.of("sheet 0 0 0;sheet 0 0 1;clerk 0 1;word 0 1;lays sheets=2;");
        borne.take(0, 0);
        CHECK.is("a borne sheet is counted where its bearer is", borne.first(0, 0), 2);
        TwinInk burnt = CHECK.of("sheet 0 0 0;sheet 0 0 1;sheet 0 0 1;clerk 1;word 1 2;lays sheets=2;");
        burnt.fire(0);
        CHECK.is("a burnt sheet is counted nowhere", burnt.first(0, 0), 1);

        // Two clerks learn words 0 and 1 apart; where they meet, each word counts once.
        String apart = "sheet 0 0 0;sheet 0 0 0;sheet 0 0 1;sheet 0 0 1;sheet 0 0 2;sheet 0 0 2;"
            + "clerk 0 2;clerk 1 2;word 0 1;word 2 3;word 4 5;word 1 0;word 3 2;lays known=0 or known=";
        TwinInk x = CHECK.of(apart + "4;");
        CHECK.is("known counts the words of all who are there", x.first(0, 2), 2);
        TwinInk y = CHECK.of(apart + "2;");
        CHECK.is("known is 2 nowhere in town 2", y.first(0, 2), NONE);
        TwinInk both = CHECK.of("sheet 0 0 0;sheet 0 0 0;sheet 0 0 1;sheet 0 0 1;clerk 0 1;clerk 0 1;"
            + "word 0 1;word 2 3;lays known=0 or known=1;");
        CHECK.is("a word that both know counts once", both.first(0, 1), 2);
    }

    private static void first(String text, int due) {
        CHECK.is("first(0, 0) of '" + text + "'", CHECK.of(text).first(0, 0), due);
    }

    private static void sheetValues() {
        String base = "sheet 5 6 3;sheet 7 8 1;clerk 3 2;moulds ";
        mould(base + "left=5;", 1, NONE);
        mould(base + "left=7;", NONE, 1);
        mould(base + "right=6;", 1, NONE);
        mould(base + "right=8;", NONE, 1);
        mould(base + "sheet=0;", 1, NONE);
        mould(base + "sheet;", NONE, 1);
        mould(base + "town=3;", 1, NONE);
        mould(base + "town=1;", NONE, 1);
        mould(base + "day=4;", 5, 5);
        mould(base + "borne;", NONE, NONE);
        TwinInk x = CHECK.of(base + "borne;");
        x.take(0, 0);
        CHECK.is("borne", x.mould(0), 1);
        CHECK.is("not borne", x.mould(1), NONE);
        x.days(1);
        CHECK.is("borne is 1, so step 0 changes", x.sheet(0, 1), 7);
        TwinInk y = CHECK.of(base + "town=2;");
        y.take(0, 0);
        CHECK.is("town of a borne sheet", y.mould(0), 2);
    }

    private static void mould(String text, int zero, int one) {
        TwinInk x = CHECK.of(text);
        CHECK.is("mould(0) of '" + text + "'", x.mould(0), zero);
        CHECK.is("mould(1) of '" + text + "'", x.mould(1), one);
    }

    private static void mouldSteps() {
        TwinInk x = CHECK.of("sheet 0 255 0;sheet 0 0 1;moulds day+1;");
        x.days(1);
        CHECK.is("step 0 is otherwise", x.sheet(0, 1), 254);
        x.days(8);
        CHECK.is("day 8 changes step 0 once more", x.sheet(0, 1), 1);
        CHECK.is("left edges don't mould", x.sheet(0, 0), 0);
        x.fire(0);
        x.days(1);
        CHECK.is("a burnt sheet doesn't mould", x.sheet(0, 1), 1);
        CHECK.is("another one does", x.sheet(1, 1), 252);
        TwinInk never = CHECK.of("sheet 0 0 0;");
        never.days(20);
        CHECK.is("without a rule never", never.sheet(0, 1), 0);
    }

    /** Words are laid ahead of the day's mould. */
    private static void order() {
        TwinInk x = CHECK.of("sheet 0 0 0;sheet 0 0 0;clerk 0;word 0 1;moulds 1;");
        x.days(1);
        CHECK.is("laid ahead of mould", x.clerk(0, 1), 1);
        CHECK.is("mould behind", x.sheet(0, 1), 1);
        CHECK.is("it doesn't show any more", x.word(0, 2), NONE);
        TwinInk y = CHECK.of("sheet 0 1 0;sheet 0 0 0;clerk 0;word 0 1;moulds 1-day;");
        CHECK.is("what mould makes fit shows on the next day", y.first(0, 0), 2);
        TwinInk z = CHECK.of("sheet 0 0 0;sheet 0 0 0;clerk 1 0;word 0 1;");
        CHECK.is("without a clerk there nobody lays", z.first(0, 0), 2);
    }

    private static void longRules() {
        StringBuilder sum = new StringBuilder("sheet 0 0 0;moulds 1");
        while (sum.length() < 697) {
            sum.append("+1");
        }
        int value = (sum.length() - "sheet 0 0 0;moulds 1".length()) / 2 + 1;
        TwinInk x = CHECK.of(sum + ";");
        x.days(1);
        CHECK.is("a rule as long as the tape", x.sheet(0, 1), 1 << (value - 1) % 8);
        gives("0 or 1 and 0<1+1*(0 or 1 and 0<1+1*(0 or 1 and 0<1+1*(0 or 1 and 0<1+1*(0 or 1 and 0<1+1*"
            + "(0 or 1 and 0<1+1*6)))))", 1);
        gives("1+1*(1+1*(1+1*(1+1*(1+1*(1+1*2)))))", 8);
    }
}
