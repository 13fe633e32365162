/** Promises 36, 37 and 41: company, together, heirs. */
public final class RoundsTest {
    private static final Check CHECK = new Check();
    private static final int NONE = TwinInk.NONE;

    public static void main(String[] args) {
        company();
        together();
        heir();
        CHECK.end();
    }

    private static void company() {
        TwinInk x = CHECK.of("clerk 0 1;clerk 0 1 2;clerk 3;");
        CHECK.is("this day", x.company(0, 1, 1), 1);
        CHECK.is("two", x.company(0, 1, 2), 2);
        CHECK.is("six", x.company(0, 1, 6), 2);
        CHECK.is("seven", x.company(1, 0, 7), 3);
        CHECK.is("sixty", x.company(0, 1, 60), 20);
        CHECK.is("never", x.company(0, 2, 60), 0);
        CHECK.is("oneself", x.company(2, 2, 60), 60);
        x.days(2);
        CHECK.is("from now on", x.company(0, 1, 4), 0);
        CHECK.is("from now on, five", x.company(0, 1, 5), 1);
        CHECK.noSuch("company(3, 0, 0)", () -> x.company(3, 0, 0));
        CHECK.noSuch("company(0, 3, 61)", () -> x.company(0, 3, 61));
        CHECK.noSuch("company(-1, 0, 1)", () -> x.company(-1, 0, 1));
        CHECK.noSuch("company(0, -1, 1)", () -> x.company(0, -1, 1));
        CHECK.illegal("company(0, 1, 0)", () -> x.company(0, 1, 0));
        CHECK.illegal("company(0, 1, 61)", () -> x.company(0, 1, 61));
    }

    private static void together() {
        TwinInk x = CHECK.of("clerk 0 1;clerk 1 1 1 1 1 0;clerk 2 2 1 2 2;clerk 3 3 3 1;");
        CHECK.is("one", x.together(1), 0);
        CHECK.is("two", x.together(2), 1);
        CHECK.is("three", x.together(3), 3);
        CHECK.is("four", x.together(4), 7);
        CHECK.is("five are too many", x.together(5), NONE);
        x.days(3);
        CHECK.is("from now on", x.together(3), 0);
        CHECK.illegal("together(0)", () -> x.together(0));
        CHECK.illegal("together(7)", () -> x.together(7));
        CHECK.is("no CLERKS", new TwinInk().together(1), NONE);
        CHECK.is("six of six", CHECK.of("clerk 3;".repeat(6)).together(6), 0);
        // Rounds of 3, 4 and 5 come together once in 60 days, on the last one of them.
        TwinInk late = CHECK.of("clerk 0 0 3;clerk 1 1 1 3;clerk 2 2 2 2 3;");
        CHECK.is("in 59", late.together(3), 59);
        late.days(19);
        CHECK.is("in 40", late.together(3), 40);
        late.days(20);
        late.days(20);
        CHECK.is("this day", late.together(3), 0);
        late.days(1);
        CHECK.is("in 59 again", late.together(3), 59);
    }

    private static void heir() {
        // Clerk 0 knows words 0 and 1, clerk 1 word 0, clerk 2 words 0 and 1, clerk 3 word 2.
        TwinInk x = CHECK.of("sheet 1 1 0;sheet 1 1 0;sheet 1 1 1;sheet 1 1 1;sheet 1 1 2;sheet 1 1 2;"
            + "clerk 0 1;clerk 0;clerk 1 0;clerk 2;word 0 1;word 2 3;word 4 5;");
        CHECK.is("none knows anything", x.heir(0), 1);
        CHECK.is("the least other one", x.heir(1), 0);
        x.days(2);
        CHECK.is("2 knows as much", x.heir(0), 2);
        CHECK.is("0 of 0 and 2", x.heir(1), 0);
        CHECK.is("0 knows both", x.heir(2), 0);
        CHECK.is("nobody knows word 2", x.heir(3), 0);
        CHECK.noSuch("heir(4)", () -> x.heir(4));
        CHECK.noSuch("heir(-1)", () -> x.heir(-1));
        CHECK.is("no other one", CHECK.of("clerk 0;").heir(0), NONE);
    }
}
