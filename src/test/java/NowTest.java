/** Promises 5 to 9: what is there now. */
public final class NowTest {
    private static final Check CHECK = new Check();
    private static final int NONE = TwinInk.NONE;

    public static void main(String[] args) {
        counts();
        sheets();
        clerks();
        words();
        towns();
        CHECK.end();
    }

    private static TwinInk office() {
        return CHECK.of("sheet 0 5 0;sheet 5 9 0;sheet 9 0 1;sheet 3 6 2;clerk 0 1 3;clerk 1 2;"
            + "word 0 1;word 1 2;word 2 0;word 3 0;slack 1;");
    }

    private static void counts() {
        TwinInk x = office();
        CHECK.is("SHEETS", x.count(0), 4);
        CHECK.is("CLERKS", x.count(1), 2);
        CHECK.is("WORDS", x.count(2), 4);
        CHECK.is("SLACK", x.count(3), 1);
        CHECK.is("DAY", x.count(4), 0);
        x.days(3);
        x.take(0, 1);
        x.fire(2);
        CHECK.is("DAY 3", x.count(4), 3);
        CHECK.is("BURNT", x.count(5), 8);
        CHECK.is("borne", x.count(6), 2);
        CHECK.is("known", x.count(7), 1);
        CHECK.is("ACTS", x.count(9), 3);
        x.take(0, 3);
        x.hear(0, 0, 13, true);
        x.hear(0, 0, 13, true);
        x.hear(0, 0, 12, true);
        x.feed(0, 0, 0, 0, 0);
        CHECK.is("HEARD", x.count(10), 1);
        CHECK.is("tape", x.count(11), 20);
        CHECK.is("a text with a fault", x.office(20), 1);
        CHECK.is("STATUS 0", x.count(12), 1);
        CHECK.is("STATUS 1", x.count(13), 1);
        CHECK.is("STATUS 2", x.count(14), 2);
        CHECK.noSuch("count(15)", () -> x.count(15));
        CHECK.noSuch("count(-1)", () -> x.count(-1));
        couples();
    }

    private static void couples() {
        CHECK.is("three in a ring make one couple", office().count(8), 1);
        // One sheet beside three others: only one of them gets it.
        CHECK.is("a star", CHECK.of("sheet 255 1 0;sheet 1 15 0;sheet 1 15 1;sheet 1 15 2;").count(8), 1);
        // 0-1, 1-2, 2-3: the couple in the middle would waste the other two.
        CHECK.is("a path of four", CHECK.of("sheet 255 1 0;sheet 1 2 0;sheet 2 4 0;sheet 4 240 0;").count(8), 2);
        TwinInk nine = CHECK.of("sheet 0 0 0;".repeat(9));
        CHECK.is("nine alike", nine.count(8), 4);
        nine.fire(0);
        CHECK.is("BURNT ones make none", nine.count(8), 0);
        CHECK.is("each fits itself alone", CHECK.of("sheet 1 1 0;sheet 2 2 0;").count(8), 0);
        CHECK.is("the right one fits left", CHECK.of("sheet 7 1 0;sheet 2 7 0;").count(8), 1);
    }

    private static void sheets() {
        TwinInk x = office();
        CHECK.is("LEFT", x.sheet(3, 0), 3);
        CHECK.is("RIGHT", x.sheet(3, 1), 6);
        CHECK.is("TOWN", x.sheet(3, 2), 2);
        CHECK.is("nobody bears it", x.sheet(3, 3), NONE);
        CHECK.is("FITTING of 0", x.sheet(0, 4), 2);
        CHECK.is("FITTING of 2", x.sheet(2, 4), 1);
        CHECK.is("FITTING of 3", x.sheet(3, 4), 0);
        x.take(0, 0);
        x.days(2);
        CHECK.is("the bearer's TOWN", x.sheet(0, 2), 3);
        CHECK.is("the bearer", x.sheet(0, 3), 0);
        x.fire(0);
        CHECK.is("BURNT is nowhere", x.sheet(1, 2), NONE);
        CHECK.is("BURNT has no bearer", x.sheet(1, 3), NONE);
        CHECK.is("BURNT has edges", x.sheet(1, 1), 9);
        CHECK.is("BURNT fits nowhere", x.sheet(1, 4), 0);
        CHECK.is("nothing fits BURNT ones", x.sheet(0, 4), 0);
        CHECK.noSuch("sheet(4, 0)", () -> x.sheet(4, 0));
        CHECK.noSuch("sheet(-1, 0)", () -> x.sheet(-1, 0));
        CHECK.noSuch("sheet(0, 5)", () -> x.sheet(0, 5));
        CHECK.noSuch("sheet(0, -1)", () -> x.sheet(0, -1));
        TwinInk slack = CHECK.of("sheet 0 7 0;sheet 4 0 0;sheet 0 0 0;slack 2;");
        CHECK.is("just as much as SLACK fits", slack.sheet(0, 4), 2);
        TwinInk all = CHECK.of("sheet 0 255 0;sheet 0 255 0;slack 8;");
        CHECK.is("SLACK 8 lets all fit, but not itself", all.sheet(1, 4), 1);
    }

    private static void clerks() {
        TwinInk x = office();
        CHECK.is("TOWN", x.clerk(1, 0), 1);
        CHECK.is("KNOWS nothing", x.clerk(0, 1), 0);
        CHECK.is("TOWNS of the ROUND", x.clerk(0, 3), 3);
        x.take(0, 0);
        x.take(0, 1);
        x.days(1);
        CHECK.is("next TOWN", x.clerk(0, 0), 1);
        CHECK.is("KNOWS", x.clerk(0, 1), 1);
        CHECK.is("bears", x.clerk(0, 2), 3);
        CHECK.is("bears nothing", x.clerk(1, 2), 0);
        x.days(2);
        CHECK.is("the ROUND begins again", x.clerk(0, 0), 0);
        CHECK.is("the bits of WORDS", x.clerk(0, 1), 7);
        CHECK.noSuch("clerk(2, 0)", () -> x.clerk(2, 0));
        CHECK.noSuch("clerk(-1, 0)", () -> x.clerk(-1, 0));
        CHECK.noSuch("clerk(0, 4)", () -> x.clerk(0, 4));
        CHECK.noSuch("clerk(0, -1)", () -> x.clerk(0, -1));
    }

    private static void words() {
        TwinInk x = office();
        CHECK.is("left", x.word(3, 0), 3);
        CHECK.is("right", x.word(2, 1), 0);
        CHECK.is("SHOWS", x.word(0, 2), 0);
        CHECK.is("apart", x.word(1, 2), NONE);
        CHECK.is("nobody KNOWS it", x.word(0, 3), 0);
        x.take(0, 1);
        x.days(1);
        CHECK.is("SHOWS elsewhere, one borne", x.word(1, 2), 1);
        CHECK.is("who KNOWS it", x.word(0, 3), 1);
        CHECK.is("apart now", x.word(0, 2), NONE);
        TwinInk misfits = CHECK.of("sheet 1 2 0;sheet 1 2 0;word 0 1;");
        CHECK.is("together, but doesn't FIT", misfits.word(0, 2), NONE);
        TwinInk burnt = CHECK.of("sheet 0 0 0;sheet 0 0 0;clerk 0;clerk 0;word 0 1;");
        burnt.days(1);
        burnt.fire(0);
        CHECK.is("BURNT together", burnt.word(0, 2), NONE);
        CHECK.is("both KNOW it still", burnt.word(0, 3), 3);
        CHECK.noSuch("word(4, 0)", () -> x.word(4, 0));
        CHECK.noSuch("word(-1, 0)", () -> x.word(-1, 0));
        CHECK.noSuch("word(0, 4)", () -> x.word(0, 4));
        CHECK.noSuch("word(0, -1)", () -> x.word(0, -1));
    }

    private static void towns() {
        TwinInk x = office();
        x.take(1, 2);
        x.take(0, 0);
        CHECK.is("archive", x.town(0, 0), 2);
        CHECK.is("there, borne or not", x.town(0, 1), 3);
        CHECK.is("archive without", x.town(1, 0), 0);
        CHECK.is("borne there", x.town(1, 1), 4);
        CHECK.is("CLERKS", x.town(0, 2), 1);
        CHECK.is("SHOWS, one borne", x.town(0, 3), 1);
        CHECK.is("LOST", x.town(0, 4), 3);
        CHECK.is("what is borne isn't LOST", x.town(1, 4), 0);
        CHECK.is("LOST in town 2", x.town(2, 4), 8);
        x.fire(0);
        CHECK.is("nothing in the archive", x.town(0, 0), 0);
        CHECK.is("one borne there", x.town(0, 1), 1);
        CHECK.is("SHOWS no more", x.town(0, 3), 0);
        x.leave(0, 0);
        CHECK.is("LOST once is not LOST again", x.town(0, 4), 12);
        CHECK.is("CLERKS of an empty town", x.town(3, 2), 0);
        CHECK.noSuch("town(4, 0)", () -> x.town(4, 0));
        CHECK.noSuch("town(-1, 0)", () -> x.town(-1, 0));
        CHECK.noSuch("town(0, 5)", () -> x.town(0, 5));
        CHECK.noSuch("town(0, -1)", () -> x.town(0, -1));
    }
}
