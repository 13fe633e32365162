/** Promises 28 to 31: what is heard, who bore what by it, whom to ask next. */
public final class HeardTest {
    private static final Check CHECK = new Check();
    private static final int NONE = TwinInk.NONE;

    public static void main(String[] args) {
        hear();
        borne();
        ask();
        CHECK.end();
    }

    /** Word 0 shows where sheets 0 and 1 meet, word 1 where 1 and 2 do; both clerks are in town 1 on odd days. */
    private static TwinInk office() {
        return CHECK.of("sheet 1 1 0;sheet 1 1 1;sheet 1 1 2;clerk 0 1;clerk 2 1;word 0 1;word 1 2;");
    }

    private static void hear() {
        TwinInk x = office();
        CHECK.is("days -1", x.hear(0, 0, -1, true), NONE);
        CHECK.is("days 13", x.hear(0, 0, 13, true), NONE);
        CHECK.is("STATUS 2", x.count(14), 2);
        for (int i = 1; i <= 8; i++) {
            CHECK.is("hear " + i, x.hear(1, 1, i + 4, false), i);
        }
        CHECK.is("the ninth", x.hear(0, 0, 0, true), NONE);
        CHECK.is("STATUS 2 then", x.count(14), 3);
        CHECK.is("HEARD", x.count(10), 8);
        CHECK.noSuch("hear(2, ..)", () -> x.hear(2, 0, 0, true));
        CHECK.noSuch("hear(-1, ..)", () -> x.hear(-1, 0, 0, true));
        CHECK.noSuch("hear(0, 2, ..)", () -> x.hear(0, 2, 99, true));
        CHECK.noSuch("hear(0, -1, ..)", () -> x.hear(0, -1, 0, true));
        CHECK.is("what there is not counts for nothing", x.count(14), 3);
        x.forget();
        CHECK.is("forgotten", x.count(10), 0);
        CHECK.is("anew", x.hear(0, 0, 0, false), 1);
    }

    private static void borne() {
        TwinInk x = office();
        CHECK.is("all pairs, if nothing is HEARD", x.borne(0), 6);
        CHECK.is("the first", x.borne(1), 0);
        CHECK.is("nothing is so without", x.borne(2), 1);
        x.hear(0, 0, 2, true);
        // Clerk 0 bears 0 to town 1, or has 1 beside 0 in town 0, or clerk 1 bears 0 to town 1.
        CHECK.is("without", x.borne(2), 0);
        CHECK.is("how many", x.borne(0), 3);
        CHECK.is("the first is 0 by 0", x.borne(1), 0);
        x.hear(0, 0, 1, false);
        CHECK.is("not on the day ahead", x.borne(0), 2);
        CHECK.is("it isn't 1 that clerk 0 bore", x.borne(1), 0);
        x.forget();
        x.hear(0, 0, 1, true);
        CHECK.is("at once", x.borne(0), 1);
        CHECK.is("1 by 0", x.borne(1), 1);
        x.forget();
        x.hear(1, 1, 2, true);
        CHECK.is("known to clerk 1", x.borne(0), 3);
        CHECK.is("2 by 0", x.borne(1), 2);
        x.hear(1, 1, 1, true);
        CHECK.is("by clerk 1 alone", x.borne(0), 1);
        CHECK.is("1 by 1", x.borne(1), 11);
        x.hear(1, 1, 0, true);
        CHECK.is("none", x.borne(0), 0);
        CHECK.is("the first of none", x.borne(1), NONE);
        x.forget();
        x.hear(0, 0, 12, false);
        CHECK.is("not known in 12", x.borne(2), 1);
        TwinInk atOnce = CHECK.of("sheet 1 1 0;sheet 1 1 0;clerk 0;word 0 1;");
        atOnce.hear(0, 0, 0, true);
        CHECK.is("known in 1, but not now", atOnce.borne(2), 0);
        CHECK.is("not now by any pair", atOnce.borne(0), 0);
        atOnce.forget();
        atOnce.hear(0, 0, 0, false);
        atOnce.hear(0, 0, 1, true);
        CHECK.is("not now, but in 1", atOnce.borne(2), 1);
        CHECK.noSuch("borne(3)", () -> x.borne(3));
        CHECK.noSuch("borne(-1)", () -> x.borne(-1));
        bearers();
    }

    private static void bearers() {
        TwinInk x = office();
        x.take(0, 0);
        CHECK.is("not the one who bears it", x.borne(0), 5);
        CHECK.is("the first is 1 by 0", x.borne(1), 1);
        x.fire(1);
        CHECK.is("nothing BURNT", x.borne(0), 3);
        CHECK.is("the first is 2 by 0", x.borne(1), 2);
        x.undo();
        x.hear(0, 0, 2, true);
        CHECK.is("as it is", x.borne(2), 1);
        CHECK.is("by all others too", x.borne(0), 5);
        x.days(2);
        CHECK.is("days count from now on", x.borne(2), 1);
        x.forget();
        x.hear(0, 0, 0, true);
        CHECK.is("it is known now", x.borne(0), 5);
        TwinInk apart = CHECK.of("sheet 1 1 0;sheet 1 1 1;clerk 0 1;clerk 2;word 0 1;");
        apart.take(0, 0);
        apart.hear(0, 0, 12, true);
        CHECK.is("neither 0 by 1 nor 1 by 1, who is elsewhere", apart.borne(0), 1);
        CHECK.is("1 by 0 as well", apart.borne(1), 1);
        CHECK.is("no CLERKS", CHECK.of("sheet 0 0 0;").borne(0), 0);
        CHECK.is("no CLERKS, first", CHECK.of("sheet 0 0 0;").borne(1), NONE);
        CHECK.is("no CLERKS, without", CHECK.of("sheet 0 0 0;").borne(2), 1);
        CHECK.is("no SHEETS", CHECK.of("clerk 0;").borne(0), 0);
    }

    private static void ask() {
        TwinInk x = office();
        // Each clerk knows word 0 by some pairs, word 1 by others, and nothing by one.
        CHECK.is("whom", x.ask(0), 0);
        CHECK.is("how many", x.ask(1), 3);
        x.hear(0, 0, 6, true);
        // By 1 in the hands of clerk 0 the other one knows nothing, by the other two pairs word 0.
        CHECK.is("how many by what is HEARD", x.ask(1), 2);
        CHECK.is("whom by what is HEARD", x.ask(0), 1);
        x.hear(0, 0, 6, false);
        CHECK.is("none", x.ask(0), NONE);
        CHECK.is("how many of none", x.ask(1), 0);
        CHECK.noSuch("ask(2)", () -> x.ask(2));
        CHECK.noSuch("ask(-1)", () -> x.ask(-1));
        TwinInk other = CHECK.of("sheet 1 1 1;sheet 1 1 0;clerk 3;clerk 1 0 2;word 0 1;");
        CHECK.is("the other one", other.ask(0), 1);
        CHECK.is("two", other.ask(1), 2);
        other.hear(1, 0, 12, true);
        CHECK.is("HEARD of a later day", other.ask(1), 1);
        // The word is laid on day 5 or on day 6, which is too late for six days.
        String late = "sheet 1 1 0;sheet 1 1 1;clerk 0;word 0 1;lays day=";
        CHECK.is("in six days", CHECK.of(late + "5;").ask(1), 2);
        CHECK.is("not in seven", CHECK.of(late + "6;").ask(1), 1);
        CHECK.is("no CLERKS", new TwinInk().ask(0), NONE);
        CHECK.is("no CLERKS, how many", new TwinInk().ask(1), 0);
    }
}
