/** Promises 10 to 15, 43 and 44: acts, how they are undone, and the image. */
public final class ActsTest {
    private static final Check CHECK = new Check();
    private static final int NONE = TwinInk.NONE;

    public static void main(String[] args) {
        days();
        takeAndLeave();
        forge();
        fire();
        undo();
        mostActs();
        image();
        CHECK.end();
    }

    private static TwinInk office() {
        return CHECK.of("sheet 0 5 0;sheet 5 9 0;sheet 9 0 1;clerk 0 1;clerk 1 2;word 0 1;word 1 2;word 2 0;moulds sheet=2;");
    }

    private static void days() {
        TwinInk x = office();
        CHECK.is("days(1)", x.days(1), 1);
        CHECK.is("days(20)", x.days(20), 21);
        CHECK.is("days(0)", x.days(0), NONE);
        CHECK.is("days(21)", x.days(21), NONE);
        CHECK.is("days(-1)", x.days(-1), NONE);
        CHECK.is("days(most)", x.days(Integer.MAX_VALUE), NONE);
        CHECK.is("days(least)", x.days(Integer.MIN_VALUE), NONE);
        CHECK.is("STATUS 1", x.count(13), 5);
        CHECK.is("ACTS", x.count(9), 2);
        for (int day = 41; day <= 981; day += 20) {
            CHECK.is("days(20) to " + day, x.days(20), day);
        }
        CHECK.is("above 999", x.days(19), NONE);
        CHECK.is("to 999", x.days(18), 999);
        CHECK.is("999 is the last one", x.days(1), NONE);
        CHECK.is("STATUS 1 then", x.count(13), 7);
    }

    private static void takeAndLeave() {
        TwinInk x = office();
        CHECK.is("elsewhere", x.take(0, 2), false);
        CHECK.is("take", x.take(0, 0), true);
        CHECK.is("taken by that one", x.take(0, 0), false);
        CHECK.is("where it is", x.town(0, 0), 2);
        CHECK.is("leave by another one", x.leave(1, 0), NONE);
        CHECK.is("leave what isn't borne", x.leave(0, 1), NONE);
        CHECK.is("STATUS 1", x.count(13), 4);
        x.days(1);
        CHECK.is("leave elsewhere", x.leave(0, 0), 1);
        CHECK.is("in the archive there", x.town(1, 0), 5);
        CHECK.is("no longer borne", x.sheet(0, 3), NONE);
        x.days(1);
        CHECK.is("another one takes it", x.take(1, 0), true);
        CHECK.is("bearer", x.sheet(0, 3), 1);
        x.fire(0);
        CHECK.is("BURNT", x.take(0, 1), false);
        CHECK.is("leave BURNT", x.leave(0, 1), NONE);
        CHECK.noSuch("take(2, 0)", () -> x.take(2, 0) ? 1 : 0);
        CHECK.noSuch("take(-1, 0)", () -> x.take(-1, 0) ? 1 : 0);
        CHECK.noSuch("take(0, 3)", () -> x.take(0, 3) ? 1 : 0);
        CHECK.noSuch("take(0, -1)", () -> x.take(0, -1) ? 1 : 0);
        CHECK.noSuch("leave(2, 0)", () -> x.leave(2, 0));
        CHECK.noSuch("leave(-1, 0)", () -> x.leave(-1, 0));
        CHECK.noSuch("leave(0, 3)", () -> x.leave(0, 3));
        CHECK.noSuch("leave(0, -1)", () -> x.leave(0, -1));
        CHECK.is("what there is not counts for nothing", x.count(13), 6);
        CHECK.is("ACTS", x.count(9), 6);
    }

    private static void forge() {
        TwinInk x = office();
        CHECK.is("LEFT", x.forge(1, 0, 0), 4);
        CHECK.is("LEFT back", x.forge(1, 0, 0), 5);
        CHECK.is("RIGHT", x.forge(1, 1, 7), 137);
        CHECK.is("RIGHT there", x.sheet(1, 1), 137);
        CHECK.is("LEFT as it was", x.sheet(1, 0), 5);
        CHECK.is("it fits no more", x.sheet(1, 4), 0);
        x.fire(0);
        CHECK.is("BURNT", x.forge(1, 1, 7), NONE);
        CHECK.is("STATUS 1", x.count(13), 1);
        CHECK.noSuch("no such STEP, BURNT or not", () -> x.forge(1, 1, 8));
        CHECK.noSuch("STEP -1", () -> x.forge(2, 1, -1));
        CHECK.noSuch("side 2", () -> x.forge(2, 2, 0));
        CHECK.noSuch("side -1", () -> x.forge(2, -1, 0));
        CHECK.noSuch("SHEET 3", () -> x.forge(3, 0, 0));
        CHECK.noSuch("SHEET -1", () -> x.forge(-1, 0, 0));
        CHECK.is("STATUS 1 stays", x.count(13), 1);
    }

    private static void fire() {
        TwinInk x = office();
        x.take(0, 0);
        CHECK.is("what is borne doesn't burn", x.fire(0), 2);
        CHECK.is("BURNT", x.count(5), 2);
        CHECK.is("twice", x.fire(0), NONE);
        CHECK.is("an empty archive", x.fire(3), NONE);
        CHECK.is("STATUS 1", x.count(13), 2);
        CHECK.is("ACTS", x.count(9), 2);
        CHECK.noSuch("fire(4)", () -> x.fire(4));
        CHECK.noSuch("fire(-1)", () -> x.fire(-1));
    }

    private static void undo() {
        TwinInk x = office();
        x.take(0, 0);
        x.days(3);
        x.leave(0, 0);
        x.forge(1, 0, 3);
        x.fire(1);
        x.hear(0, 0, 1, true);
        CHECK.is("undo a FIRE", x.undo(), 4);
        CHECK.is("where they were", x.town(1, 0), 5);
        CHECK.is("undo forging", x.undo(), 3);
        CHECK.is("the edge", x.sheet(1, 0), 5);
        CHECK.is("undo leaving", x.undo(), 2);
        CHECK.is("borne", x.sheet(0, 3), 0);
        CHECK.is("mould of three days", x.sheet(2, 1), 1);
        CHECK.is("known by three days", x.count(7), 1);
        CHECK.is("undo all DAYS at once", x.undo(), 1);
        CHECK.is("the DAY", x.count(4), 0);
        CHECK.is("the mould", x.sheet(2, 1), 0);
        CHECK.is("what is known", x.count(7), 0);
        CHECK.is("undo taking", x.undo(), 0);
        CHECK.is("in the archive", x.town(0, 0), 3);
        CHECK.is("nothing to undo", x.undo(), NONE);
        CHECK.is("STATUS 1 has no part in it", x.count(13), 0);
        CHECK.is("HEARD has no part in it", x.count(10), 1);
    }

    private static void mostActs() {
        TwinInk x = office();
        for (int i = 0; i < 45; i++) {
            x.days(1);
        }
        CHECK.is("40 ACTS are kept", x.count(9), 40);
        for (int left = 39; left >= 0; left--) {
            CHECK.is("undo to " + left, x.undo(), left);
        }
        CHECK.is("the first five stay", x.count(4), 5);
        CHECK.is("none is left", x.undo(), NONE);
        for (int i = 0; i < 3; i++) {
            x.days(2);
        }
        CHECK.is("ACTS anew", x.count(9), 3);
        x.undo();
        CHECK.is("the latest one is undone", x.count(4), 9);
    }

    private static void image() {
        TwinInk x = office();
        CHECK.is("no image", x.restore(), false);
        x.take(0, 0);
        x.days(2);
        x.hear(0, 0, 2, true);
        x.image();
        x.leave(0, 0);
        x.forge(0, 0, 7);
        x.fire(0);
        x.days(5);
        x.forget();
        x.days(0);
        CHECK.is("restore", x.restore(), true);
        CHECK.is("DAY", x.count(4), 2);
        CHECK.is("LEFT", x.sheet(0, 0), 0);
        CHECK.is("RIGHT", x.sheet(2, 1), 0);
        CHECK.is("bearer", x.sheet(0, 3), 0);
        CHECK.is("BURNT", x.count(5), 0);
        CHECK.is("KNOWS", x.clerk(0, 1), 1);
        CHECK.is("ACTS", x.count(9), 2);
        CHECK.is("HEARD", x.count(10), 1);
        CHECK.is("HEARD of a word that is known", x.borne(2), 1);
        CHECK.is("STATUS is no part of it", x.count(13), 1);
        CHECK.is("the image's ACTS are undone", x.undo(), 1);
        CHECK.is("as it was ahead of them", x.count(4), 0);
        x.undo();
        x.days(7);
        CHECK.is("an image can be had twice", x.restore(), true);
        CHECK.is("DAY again", x.count(4), 2);
        CHECK.is("ACTS again", x.count(9), 2);
        x.undo();
        x.image();
        x.days(9);
        x.restore();
        CHECK.is("another image in its place", x.count(4), 0);
        CHECK.is("with its own ACTS", x.count(9), 1);
        imageOfMuch();
    }

    private static void imageOfMuch() {
        TwinInk x = office();
        for (int i = 0; i < 45; i++) {
            x.days(1);
        }
        x.hear(0, 0, 0, true);
        x.hear(1, 1, 5, false);
        x.image();
        for (int i = 0; i < 7; i++) {
            x.days(2);
        }
        x.forget();
        x.hear(1, 1, 5, true);
        x.hear(0, 0, 0, false);
        CHECK.is("HEARD otherwise", x.borne(2), 0);
        x.restore();
        CHECK.is("HEARD as it was", x.borne(2), 1);
        CHECK.is("40 ACTS", x.count(9), 40);
        for (int day = 44; day >= 5; day--) {
            x.undo();
            CHECK.is("undone to the DAY", x.count(4), day);
        }
        Check.tell(x, "sheet 1 1 0;sheet 1 1 0;clerk 0;clerk 1;word 0 1;word 1 0;");
        x.hear(0, 1, 7, true);
        x.hear(1, 0, 12, false);
        x.image();
        x.forget();
        x.hear(1, 0, 12, false);
        x.hear(0, 1, 0, true);
        CHECK.is("HEARD of other days", x.borne(2), 0);
        x.restore();
        CHECK.is("HEARD of these days", x.borne(2), 1);
        x.forget();
        x.hear(0, 1, 0, false);
        x.image();
        x.forget();
        x.hear(1, 0, 3, false);
        x.restore();
        x.days(1);
        CHECK.is("HEARD of this CLERK", x.borne(2), 0);
    }
}
