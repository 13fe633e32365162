import java.util.function.ToIntFunction;

/** A refused call changes nothing but the STATUS that the document names; one that is let in changes no STATUS. */
public final class RefusedTest {
    private static final Check CHECK = new Check();
    private static final int NONE = TwinInk.NONE;
    private static final int NO_STATUS = -1;

    /** How an object comes to be, ahead of the call that is refused. */
    interface Making {
        TwinInk make();
    }

    public static void main(String[] args) {
        texts();
        days();
        takes();
        leaves();
        forges();
        fires();
        hears();
        withoutStatus();
        counted();
        letIn();
        CHECK.end();
    }

    /** Clerks 0 and 1 are in town 0, clerk 2 in town 1; sheet 0 is borne by 0, sheet 1 lies there, 2 is in town 1, 3 burnt. */
    private static TwinInk office() {
        TwinInk x = CHECK.of("sheet 1 1 0;sheet 1 1 0;sheet 1 1 1;sheet 1 1 2;clerk 0 1;clerk 0;clerk 1;"
            + "word 0 1;word 1 2;word 3 0;slack 1;lays day<9;moulds sheet-day;");
        x.days(1);
        x.days(1);
        x.take(0, 0);
        x.hear(0, 0, 3, true);
        x.image();
        x.fire(2);
        x.forge(1, 0, 6);
        x.hear(1, 1, 5, false);
        return x;
    }

    /** Held beside an object of the same making without the call. */
    private static void refused(String call, Making making, ToIntFunction<TwinInk> c, int answer, int status) {
        TwinInk x = making.make();
        int[] due = {x.count(12), x.count(13), x.count(14)};
        if (status != NO_STATUS) {
            due[status]++;
        }
        CHECK.is(call, c.applyAsInt(x), answer);
        for (int i = 0; i < 3; i++) {
            CHECK.is("STATUS " + i + " by " + call, x.count(12 + i), due[i]);
        }
        CHECK.is("what is there by " + call, State.of(x), State.of(making.make()));
        TwinInk undone = making.make();
        c.applyAsInt(undone);
        CHECK.is("ACTS by " + call, State.undone(undone), State.undone(making.make()));
        TwinInk restored = making.make();
        c.applyAsInt(restored);
        CHECK.is("the image by " + call, State.restored(restored), State.restored(making.make()));
    }

    private static void refused(String call, ToIntFunction<TwinInk> c, int answer, int status) {
        refused(call, RefusedTest::office, c, answer, status);
    }

    /** "0, or the FAULT (all stays)": all but the tape, which is empty, the place, and STATUS 0. */
    private static void texts() {
        String[] texts = {"x", "sheet 256 0 0;", "lays left;", "sheet 0 0 0;word 0 0;", "slack 1;slack 1;",
            "sheet 9 9 3;clerk 3;slack 8;lays 0;moulds 1;sheet 9 9 3;word 0 1;word 1 0;sheet"};
        int[] faults = {1, 2, 3, 4, 5, 1};
        for (int i = 0; i < texts.length; i++) {
            String text = texts[i];
            TwinInk x = office();
            int place = placeOf(text);
            CHECK.is("office of '" + text + "'", Check.tell(x, text), faults[i]);
            CHECK.is("STATUS by '" + text + "'", State.status(x), "1 0 0");
            CHECK.is("the place by '" + text + "'", x.fault(), place);
            CHECK.is("the tape by '" + text + "'", x.count(11), 0);
            CHECK.is("what is there by '" + text + "'", State.of(x).replace(" fault " + place, " fault -1"), State.of(office()));
            TwinInk undone = office();
            Check.tell(undone, text);
            CHECK.is("ACTS by '" + text + "'", State.undone(undone), State.undone(office()));
            TwinInk restored = office();
            Check.tell(restored, text);
            CHECK.is("the image by '" + text + "'",
                State.restored(restored).replace(" fault " + place, " fault -1"), State.restored(office()));
            CHECK.is("what comes by '" + text + "'", comes(told(text)), comes(office()));
        }
        CHECK.is("a refused text on a new object", State.of(told(new TwinInk(), "slack 8;clerk 0;;")).replace(" fault 16", " fault -1"),
            State.of(new TwinInk()));
    }

    private static int placeOf(String text) {
        TwinInk x = new TwinInk();
        Check.tell(x, text);
        return x.fault();
    }

    private static TwinInk told(String text) {
        return told(office(), text);
    }

    private static TwinInk told(TwinInk x, String text) {
        Check.tell(x, text);
        return x;
    }

    /** The rules stay, too: what days bring tells them. */
    private static String comes(TwinInk x) {
        StringBuilder b = new StringBuilder();
        for (int days = 0; days <= 12; days++) {
            b.append(x.read(days, 0)).append(' ').append(x.where(0, days)).append(' ');
        }
        for (int sheet = 0; sheet < 4; sheet++) {
            b.append(x.mould(sheet)).append(' ');
        }
        x.days(8);
        return b + State.of(x).replaceAll(" fault [-0-9]+", "");
    }

    /** "NONE (STATUS 1): not 1 to 20, it would be above 999." */
    private static void days() {
        for (int many : new int[] {Integer.MIN_VALUE, -20, -1, 0, 21, 998, 999, Integer.MAX_VALUE}) {
            refused("days(" + many + ")", x -> x.days(many), NONE, 1);
        }
        for (int many = 2; many <= 20; many++) {
            int days = many;
            refused("days(" + many + ") on day 998", RefusedTest::onDay998, x -> x.days(days), NONE, 1);
        }
        CHECK.is("days(1) on day 998", onDay998().days(1), 999);
    }

    private static TwinInk onDay998() {
        TwinInk x = CHECK.of("sheet 1 1 0;sheet 1 1 0;clerk 0;word 0 1;");
        for (int i = 0; i < 49; i++) {
            x.days(20);
        }
        x.days(18);
        return x;
    }

    /** "False (STATUS 1): it isn't in the archive there." */
    private static void takes() {
        refused("take what one bears", x -> x.take(0, 0) ? 1 : 0, 0, 1);
        refused("take what another one bears there", x -> x.take(1, 0) ? 1 : 0, 0, 1);
        refused("take what lies elsewhere", x -> x.take(0, 2) ? 1 : 0, 0, 1);
        refused("take what is borne elsewhere", x -> x.take(2, 0) ? 1 : 0, 0, 1);
        refused("take what is BURNT", x -> x.take(0, 3) ? 1 : 0, 0, 1);
    }

    /** "NONE (STATUS 1): one doesn't bear it." */
    private static void leaves() {
        refused("leave what another one bears there", x -> x.leave(1, 0), NONE, 1);
        refused("leave what another one bears elsewhere", x -> x.leave(2, 0), NONE, 1);
        refused("leave what lies in the archive there", x -> x.leave(0, 1), NONE, 1);
        refused("leave what lies elsewhere", x -> x.leave(0, 2), NONE, 1);
        refused("leave what is BURNT", x -> x.leave(0, 3), NONE, 1);
    }

    /** "NONE (STATUS 1): it is BURNT. NoSuchElementException (ahead)" */
    private static void forges() {
        for (int side = 0; side < 2; side++) {
            for (int step = 0; step < 8; step++) {
                int s = side;
                int t = step;
                refused("forge(3, " + s + ", " + t + ")", x -> x.forge(3, s, t), NONE, 1);
            }
        }
        TwinInk x = office();
        CHECK.noSuch("BURNT, but no such side", () -> x.forge(3, 2, 0));
        CHECK.noSuch("BURNT, but no such side", () -> x.forge(3, -1, 0));
        CHECK.noSuch("BURNT, but no such STEP", () -> x.forge(3, 0, 8));
        CHECK.noSuch("BURNT, but no such STEP", () -> x.forge(3, 1, -1));
        CHECK.is("STATUS by what there is not", State.status(x), "0 0 0");
    }

    /** "NONE (STATUS 1): none are." */
    private static void fires() {
        refused("fire where all is BURNT", x -> x.fire(2), NONE, 1);
        refused("fire where there never was a SHEET", x -> x.fire(3), NONE, 1);
        refused("fire where all is borne", RefusedTest::allBorne, x -> x.fire(0), NONE, 1);
        refused("fire without SHEETS", TwinInk::new, x -> x.fire(0), NONE, 1);
    }

    private static TwinInk allBorne() {
        TwinInk x = office();
        x.take(1, 1);
        return x;
    }

    /** "NONE (STATUS 2): there are 8, not 0 to 12. NoSuchElementException (ahead)" */
    private static void hears() {
        for (int days : new int[] {Integer.MIN_VALUE, -1, 13, Integer.MAX_VALUE}) {
            refused("hear in " + days, x -> x.hear(0, 0, days, true), NONE, 2);
        }
        for (int days : new int[] {-1, 0, 12, 13}) {
            refused("hear the ninth in " + days, RefusedTest::eightHeard, x -> x.hear(0, 0, days, false), NONE, 2);
        }
        TwinInk x = eightHeard();
        CHECK.noSuch("the ninth of no CLERK", () -> x.hear(3, 0, 13, true));
        CHECK.noSuch("the ninth of no WORD", () -> x.hear(0, 3, 0, true));
        CHECK.is("STATUS by what there is not", State.status(x), "0 0 0");
    }

    private static TwinInk eightHeard() {
        TwinInk x = office();
        for (int many = 3; many <= 8; many++) {
            CHECK.is("hear " + many, x.hear(many % 3, 0, many, true), many);
        }
        return x;
    }

    /** Refused without a STATUS: feed beyond the tape, undo() of nothing, restore() without an image. */
    private static void withoutStatus() {
        refused("feed beyond 700", RefusedTest::fullTape, x -> x.feed(1, 2, 3, 4, 5), NONE, NO_STATUS);
        refused("feed twice beyond 700", RefusedTest::fullTape, x -> x.feed(0, 0, 0, 0, 0) + x.feed(-1, -1, -1, -1, -1),
            2 * NONE, NO_STATUS);
        TwinInk x = fullTape();
        x.feed(-1, -1, -1, -1, -1);
        CHECK.is("the tape is as it was", x.office(700), 0);
        CHECK.is("its last line too", x.count(3), 7);
        refused("undo() of nothing", () -> CHECK.of("sheet 1 1 0;clerk 0;"), y -> y.undo(), NONE, NO_STATUS);
        refused("restore() without an image", () -> CHECK.of("sheet 1 1 0;clerk 0;"), y -> y.restore() ? 1 : 0, 0, NO_STATUS);
        refused("undo() of a new object", TwinInk::new, y -> y.undo(), NONE, NO_STATUS);
        refused("restore() of a new object", TwinInk::new, y -> y.restore() ? 1 : 0, 0, NO_STATUS);
    }

    private static TwinInk fullTape() {
        TwinInk x = new TwinInk();
        String text = " ".repeat(692) + "slack 7;";
        CHECK.is("the last feed()", Check.feed(x, text), 700);
        return x;
    }

    /** "STATUS: how many calls were refused: 0 of TEXTS with a FAULT, 1 of ACTS, 2 of what is HEARD." */
    private static void counted() {
        TwinInk x = office();
        for (int many = 1; many <= 5; many++) {
            Check.tell(x, ";");
            x.days(0);
            x.take(0, 3);
            x.leave(0, 3);
            x.forge(3, 0, 0);
            x.fire(3);
            x.hear(0, 0, 13, true);
            CHECK.is("STATUS 0", x.count(12), many);
            CHECK.is("STATUS 1", x.count(13), 5 * many);
            CHECK.is("STATUS 2", x.count(14), many);
        }
        x.restore();
        CHECK.is("STATUS by restore()", State.status(x), "5 25 5");
        x.undo();
        CHECK.is("STATUS by undo()", State.status(x), "5 25 5");
        Check.tell(x, "");
        CHECK.is("STATUS by another office", State.status(x), "5 25 5");
    }

    private static void letIn() {
        TwinInk x = office();
        x.days(1);
        x.days(20);
        x.leave(0, 0);
        x.take(2, 2);
        x.forge(0, 1, 7);
        x.fire(0);
        x.hear(0, 0, 0, true);
        x.hear(0, 0, 12, false);
        x.undo();
        x.forget();
        x.image();
        x.restore();
        Check.tell(x, "sheet 1 1 1;");
        CHECK.is("STATUS by what is let in", State.status(x), "0 0 0");
    }
}
