/** Promises 16 to 22, 27, 35, 40 and 42: what comes, if only days go by. */
public final class AheadTest {
    private static final Check CHECK = new Check();
    private static final int NONE = TwinInk.NONE;

    public static void main(String[] args) {
        then();
        where();
        first();
        read();
        mould();
        meet();
        gathering();
        chain();
        wisest();
        unread();
        laid();
        nothingChanges();
        CHECK.end();
    }

    /** Clerk 0 learns word 0 in town 0 and word 1 in town 1; clerk 1 only what shows in town 1. */
    private static TwinInk office() {
        return CHECK.of("sheet 1 1 0;sheet 1 1 0;sheet 2 2 1;sheet 2 2 1;clerk 0 1 2;clerk 3 3 1;word 0 1;word 2 3;word 1 2;");
    }

    private static void then() {
        TwinInk x = office();
        CHECK.is("TOWN now", x.then(0, 0, 0), 0);
        CHECK.is("TOWN in 40", x.then(0, 40, 0), 1);
        CHECK.is("WORDS now", x.then(0, 0, 1), 0);
        CHECK.is("WORDS in 1", x.then(0, 1, 1), 1);
        CHECK.is("WORDS in 2", x.then(0, 2, 1), 3);
        CHECK.is("WORDS in 40", x.then(0, 40, 1), 3);
        CHECK.is("WORDS of the other one in 2", x.then(1, 2, 1), 0);
        CHECK.is("WORDS of the other one in 3", x.then(1, 3, 1), 2);
        x.days(2);
        CHECK.is("from now on", x.then(0, 1, 0), 0);
        CHECK.is("what is known stays known", x.then(0, 0, 1), 3);
        CHECK.noSuch("then(2, 0, 0)", () -> x.then(2, 0, 0));
        CHECK.noSuch("then(-1, 0, 0)", () -> x.then(-1, 0, 0));
        CHECK.noSuch("then(0, 41, 2)", () -> x.then(0, 41, 2));
        CHECK.noSuch("then(0, 0, -1)", () -> x.then(0, 0, -1));
        CHECK.noSuch("then(9, 41, 0)", () -> x.then(9, 41, 0));
        CHECK.illegal("then(0, 41, 0)", () -> x.then(0, 41, 0));
        CHECK.illegal("then(0, -1, 1)", () -> x.then(0, -1, 1));
    }

    private static void where() {
        TwinInk x = office();
        x.take(0, 0);
        CHECK.is("borne, now", x.where(0, 0), 0);
        CHECK.is("borne, in 2", x.where(0, 2), 2);
        CHECK.is("borne, in 40", x.where(0, 40), 1);
        CHECK.is("in an archive", x.where(2, 40), 1);
        x.fire(1);
        CHECK.is("BURNT", x.where(2, 3), NONE);
        CHECK.noSuch("where(4, 41)", () -> x.where(4, 41));
        CHECK.noSuch("where(-1, 0)", () -> x.where(-1, 0));
        CHECK.illegal("where(0, 41)", () -> x.where(0, 41));
        CHECK.illegal("where(0, -1)", () -> x.where(0, -1));
    }

    private static void first() {
        TwinInk x = office();
        CHECK.is("clerk 0, word 0", x.first(0, 0), 1);
        CHECK.is("clerk 0, word 1", x.first(0, 1), 2);
        CHECK.is("clerk 1, word 1", x.first(1, 1), 3);
        CHECK.is("clerk 1, word 0", x.first(1, 0), NONE);
        x.days(2);
        CHECK.is("known by now", x.first(0, 0), 0);
        CHECK.is("from now on", x.first(1, 1), 1);
        CHECK.noSuch("first(2, 0)", () -> x.first(2, 0));
        CHECK.noSuch("first(0, 3)", () -> x.first(0, 3));
        CHECK.noSuch("first(-1, 0)", () -> x.first(-1, 0));
        CHECK.noSuch("first(0, -1)", () -> x.first(0, -1));
        String late = "sheet 1 1 0;sheet 1 1 0;clerk 0;word 0 1;lays day=";
        CHECK.is("in 40", CHECK.of(late + "39;").first(0, 0), 40);
        CHECK.is("in 41 is too late", CHECK.of(late + "40;").first(0, 0), NONE);
    }

    private static void read() {
        TwinInk x = office();
        CHECK.is("READ now", x.read(0, 0), 0);
        CHECK.is("READ in 1", x.read(1, 0), 1);
        CHECK.is("READ in 40", x.read(40, 0), 3);
        CHECK.is("SECRET in 2", x.read(2, 1), 3);
        CHECK.is("SECRET in 3", x.read(3, 1), 1);
        CHECK.noSuch("read(41, 2)", () -> x.read(41, 2));
        CHECK.noSuch("read(0, -1)", () -> x.read(0, -1));
        CHECK.illegal("read(41, 0)", () -> x.read(41, 0));
        CHECK.illegal("read(-1, 1)", () -> x.read(-1, 1));
        TwinInk three = CHECK.of("sheet 1 1 0;sheet 1 1 0;clerk 0;clerk 0;clerk 0;word 0 1;");
        CHECK.is("three know it", three.read(1, 1), 0);
    }

    private static void mould() {
        TwinInk x = CHECK.of("sheet 0 0 0;sheet 0 0 1;sheet 0 0 2;moulds (sheet=0 and day=39) or (sheet=1 and day=40);");
        CHECK.is("in 40", x.mould(0), 40);
        CHECK.is("in 41 is too late", x.mould(1), NONE);
        x.days(1);
        CHECK.is("from now on", x.mould(1), 40);
        x.fire(0);
        CHECK.is("BURNT", x.mould(0), NONE);
        CHECK.noSuch("mould(3)", () -> x.mould(3));
        CHECK.noSuch("mould(-1)", () -> x.mould(-1));
        TwinInk left = CHECK.of("sheet 0 0 0;moulds day=3;");
        left.forge(0, 1, 5);
        CHECK.is("as it is now", left.mould(0), 4);
    }

    private static void meet() {
        TwinInk x = office();
        CHECK.is("both there", x.meet(0, 1), 0);
        CHECK.is("never", x.meet(0, 2), NONE);
        CHECK.is("both are one", x.meet(0, 0), NONE);
        x.take(0, 0);
        CHECK.is("borne there", x.meet(0, 2), 1);
        CHECK.is("the other way", x.meet(2, 0), 1);
        CHECK.is("still there", x.meet(0, 1), 0);
        x.days(1);
        CHECK.is("back again", x.meet(0, 1), 2);
        x.fire(0);
        CHECK.is("one BURNT", x.meet(0, 1), NONE);
        TwinInk both = CHECK.of("sheet 0 0 0;sheet 0 0 0;");
        both.fire(0);
        CHECK.is("both BURNT", both.meet(0, 1), NONE);
        CHECK.noSuch("meet(4, 0)", () -> x.meet(4, 0));
        CHECK.noSuch("meet(0, 4)", () -> x.meet(0, 4));
        CHECK.noSuch("meet(-1, -1)", () -> x.meet(-1, -1));
    }

    private static void gathering() {
        TwinInk x = office();
        CHECK.is("of like ones the least", x.gathering(0), 0);
        x.take(0, 0);
        CHECK.is("borne ones count", x.gathering(0), 0);
        CHECK.is("in 1", x.gathering(1), 1);
        CHECK.is("in 2", x.gathering(2), 1);
        CHECK.is("in 40", x.gathering(40), 1);
        x.fire(1);
        CHECK.is("BURNT ones don't", x.gathering(1), 0);
        CHECK.illegal("gathering(41)", () -> x.gathering(41));
        CHECK.illegal("gathering(-1)", () -> x.gathering(-1));
        CHECK.is("no SHEETS", new TwinInk().gathering(7), 0);
    }

    private static void chain() {
        // Clerk 0 learns in town 0 and meets clerk 1 in town 1, who meets clerk 2 in town 2.
        TwinInk x = CHECK.of("sheet 1 1 0;sheet 1 1 0;clerk 0 1;clerk 3 1 2 2;clerk 3 3 3 2;word 0 1;word 1 0;");
        CHECK.is("by oneself", x.chain(0, 0), 1);
        CHECK.is("told on day 1", x.chain(1, 0), 2);
        CHECK.is("told on day 3", x.chain(2, 0), 4);
        CHECK.is("but not without telling", x.first(2, 0), NONE);
        x.days(1);
        CHECK.is("known by now", x.chain(0, 1), 0);
        CHECK.is("from now on", x.chain(2, 1), 3);
        TwinInk never = CHECK.of("sheet 1 1 0;sheet 1 1 0;clerk 0;clerk 1;word 0 1;");
        CHECK.is("never", never.chain(1, 0), NONE);
        // What is laid on a day is told on the next one at the earliest, so a clerk who goes misses it.
        TwinInk late = CHECK.of("sheet 1 1 0;sheet 1 1 0;clerk 0;clerk 0 1 1 1 1 1;word 0 1;lays clerks=1;");
        CHECK.is("told at the next meeting", late.chain(1, 0), 7);
        CHECK.is("told ahead of LAYS", CHECK.of("sheet 1 1 0;sheet 1 1 0;sheet 1 1 1;sheet 1 1 1;"
            + "clerk 0 1;clerk 3 1;word 0 1;word 2 3;lays town=0 or known=1;").chain(1, 1), 2);
        CHECK.noSuch("chain(3, 0)", () -> x.chain(3, 0));
        CHECK.noSuch("chain(0, 2)", () -> x.chain(0, 2));
        CHECK.noSuch("chain(-1, 0)", () -> x.chain(-1, 0));
        CHECK.noSuch("chain(0, -1)", () -> x.chain(0, -1));
        String last = "sheet 1 1 0;sheet 1 1 0;clerk 0;word 0 1;lays day=";
        CHECK.is("in 40", CHECK.of(last + "39;").chain(0, 0), 40);
        CHECK.is("in 41 is too late", CHECK.of(last + "40;").chain(0, 0), NONE);
    }

    private static void wisest() {
        TwinInk x = CHECK.of("sheet 1 1 1;sheet 1 1 1;clerk 0 1;clerk 1;clerk 1;word 0 1;word 1 0;");
        CHECK.is("none knows anything", x.wisest(0), 0);
        CHECK.is("of like ones the least", x.wisest(1), 1);
        CHECK.is("all know it", x.wisest(2), 0);
        CHECK.is("in 40", x.wisest(40), 0);
        CHECK.illegal("wisest(41)", () -> x.wisest(41));
        CHECK.illegal("wisest(-1)", () -> x.wisest(-1));
        CHECK.is("no CLERKS", CHECK.of("sheet 0 0 0;").wisest(3), NONE);
        CHECK.illegal("no CLERKS, wisest(41)", () -> new TwinInk().wisest(41));
    }

    private static void unread() {
        TwinInk x = office();
        CHECK.is("now", x.unread(0), 3);
        CHECK.is("in 1", x.unread(1), 2);
        CHECK.is("in 40", x.unread(40), 1);
        CHECK.illegal("unread(41)", () -> x.unread(41));
        CHECK.illegal("unread(-1)", () -> x.unread(-1));
    }

    private static void laid() {
        TwinInk x = office();
        CHECK.is("on the first", x.laid(1), 1);
        CHECK.is("on two", x.laid(2), 2);
        CHECK.is("the other one's too", x.laid(3), 3);
        CHECK.is("in 40", x.laid(40), 3);
        x.days(2);
        CHECK.is("from now on", x.laid(40), 1);
        CHECK.illegal("laid(0)", () -> x.laid(0));
        CHECK.illegal("laid(41)", () -> x.laid(41));
        TwinInk two = CHECK.of("sheet 1 1 0;sheet 1 1 0;clerk 0;clerk 0;word 0 1;word 1 0;");
        CHECK.is("much on one day counts once", two.laid(5), 1);
    }

    private static void nothingChanges() {
        TwinInk x = office();
        x.first(0, 0);
        x.read(40, 0);
        x.mould(0);
        x.chain(1, 0);
        x.laid(40);
        x.years(3, 40, 0);
        x.borne(0);
        x.ask(0);
        CHECK.is("DAY", x.count(4), 0);
        CHECK.is("nothing is known", x.count(7), 0);
        CHECK.is("no ACTS", x.count(9), 0);
        CHECK.is("no bearer", x.count(6), 0);
        CHECK.is("nothing is BURNT", x.count(5), 0);
        TwinInk late = CHECK.of("sheet 1 1 0;sheet 1 1 0;clerk 0 1;word 0 1;lays day<1035 and 1033<day;");
        for (int i = 0; i < 49; i++) {
            late.days(20);
        }
        late.days(19);
        CHECK.is("days ahead go beyond 999", late.first(0, 0), 36);
    }
}
