/** Promises 23 to 26, 38 and 39: rows, forging, what fires lose, what is odd. */
public final class EdgesTest {
    private static final Check CHECK = new Check();
    private static final int NONE = TwinInk.NONE;

    public static void main(String[] args) {
        row();
        toForge();
        toSave();
        toRead();
        odd();
        far();
        CHECK.end();
    }

    private static void isRow(TwinInk x, int... due) {
        CHECK.is("how many lie in the row", x.row(NONE), due.length);
        for (int i = 0; i < due.length; i++) {
            CHECK.is("row(" + i + ")", x.row(i), due[i]);
        }
        CHECK.noSuch("row beyond its end", () -> x.row(due.length));
        CHECK.noSuch("row(-2)", () -> x.row(-2));
        CHECK.noSuch("row(most)", () -> x.row(Integer.MAX_VALUE));
    }

    private static void row() {
        isRow(new TwinInk());
        isRow(CHECK.of("sheet 1 2 0;"), 0);
        isRow(CHECK.of("sheet 1 2 0;sheet 1 2 3;"), 0);
        isRow(CHECK.of("sheet 1 2 0;sheet 7 1 3;"), 1, 0);
        isRow(CHECK.of("sheet 0 0 0;".repeat(9)), 0, 1, 2, 3, 4, 5, 6, 7, 8);
        // Two rows of three: 1 2 3 and 1 4 0; the first one is not the one with the least sheet.
        isRow(CHECK.of("sheet 32 64 0;sheet 1 2 0;sheet 2 4 1;sheet 4 8 2;sheet 2 32 3;"), 1, 2, 3);
        // The least beginning leads to a shorter row.
        isRow(CHECK.of("sheet 1 2 0;sheet 4 8 0;sheet 8 16 0;sheet 16 32 0;sheet 2 128 0;"), 1, 2, 3);
        // Where a row could go on by the lesser sheet, but would end sooner.
        isRow(CHECK.of("sheet 0 1 0;sheet 1 255 0;sheet 1 2 0;sheet 2 4 0;"), 0, 2, 3);
        // A ring: it begins with 0, and none lies in it twice.
        isRow(CHECK.of("sheet 1 2 0;sheet 4 1 0;sheet 2 4 0;"), 0, 2, 1);
        TwinInk x = CHECK.of("sheet 1 2 0;sheet 2 4 1;sheet 4 8 2;");
        isRow(x, 0, 1, 2);
        x.fire(1);
        isRow(x, 0);
        x.fire(0);
        isRow(x, 2);
        x.fire(2);
        isRow(x);
        isRow(CHECK.of("sheet 0 255 0;sheet 0 254 0;sheet 128 255 0;slack 7;"), 1, 0, 2);
    }

    private static void toForge() {
        TwinInk x = CHECK.of("sheet 0 255 0;sheet 15 3 0;sheet 3 0 1;slack 2;");
        CHECK.is("four differ, two may", x.toForge(0, 1), 2);
        CHECK.is("as much as may", x.toForge(1, 0), 0);
        CHECK.is("none differs", x.toForge(1, 2), 0);
        CHECK.is("six differ", x.toForge(0, 2), 4);
        CHECK.is("both are one", x.toForge(2, 2), NONE);
        x.fire(1);
        CHECK.is("the right one is BURNT", x.toForge(0, 2), NONE);
        CHECK.is("the left one is BURNT", x.toForge(2, 0), NONE);
        CHECK.noSuch("toForge(3, 0)", () -> x.toForge(3, 0));
        CHECK.noSuch("toForge(0, 3)", () -> x.toForge(0, 3));
        CHECK.noSuch("toForge(-1, -1)", () -> x.toForge(-1, -1));
        CHECK.is("without SLACK", CHECK.of("sheet 0 255 0;sheet 0 0 0;").toForge(0, 1), 8);
    }

    private static void toSave() {
        TwinInk x = CHECK.of("sheet 0 0 0;sheet 0 0 0;sheet 0 0 0;sheet 0 0 1;sheet 0 0 1;clerk 0;"
            + "word 0 3;word 1 3;word 1 4;word 2 4;word 2 3;");
        CHECK.is("1 and 2 save two words each", x.toSave(0), 1);
        CHECK.is("3 saves three", x.toSave(1), 3);
        CHECK.is("an empty archive", x.toSave(2), NONE);
        x.take(0, 1);
        CHECK.is("what is borne is safe", x.toSave(0), 2);
        x.fire(1);
        CHECK.is("what is LOST can't be saved", x.toSave(0), NONE);
        TwinInk both = CHECK.of("sheet 0 0 0;sheet 0 0 0;word 0 1;");
        CHECK.is("one of two alone saves nothing", both.toSave(0), NONE);
        TwinInk misfits = CHECK.of("sheet 1 2 0;sheet 1 2 1;word 0 1;");
        CHECK.is("a word that doesn't FIT is LOST as well", misfits.toSave(0), 0);
        CHECK.noSuch("toSave(4)", () -> x.toSave(4));
        CHECK.noSuch("toSave(-1)", () -> x.toSave(-1));
    }

    private static void toRead() {
        TwinInk x = CHECK.of("sheet 0 1 0;sheet 1 2 1;sheet 2 4 2;sheet 8 8 3;sheet 8 8 3;word 0 1;word 1 2;word 2 3;");
        CHECK.is("those of words that FIT", x.toRead(), 7);
        x.forge(0, 1, 7);
        CHECK.is("without what was forged", x.toRead(), 6);
        x.fire(1);
        CHECK.is("without what is BURNT", x.toRead(), 0);
    }

    private static void odd() {
        TwinInk x = CHECK.of("sheet 0 1 0;sheet 1 2 1;sheet 2 4 2;sheet 8 8 3;sheet 2 16 3;word 1 0;word 1 2;word 2 3;");
        CHECK.is("ORPHANS", x.odd(0), 8);
        CHECK.is("DEAD", x.odd(1), 0);
        CHECK.is("BLANK", x.odd(2), 5);
        // 0 1 has a word the other way about, 1 2 has one, 1 4 has none.
        CHECK.is("STRANGERS", x.odd(3), 1);
        x.fire(1);
        CHECK.is("ORPHANS then", x.odd(0), 29);
        CHECK.is("DEAD then", x.odd(1), 3);
        CHECK.is("BLANK then", x.odd(2), 4);
        CHECK.is("STRANGERS then", x.odd(3), 0);
        CHECK.is("both ways are one couple", CHECK.of("sheet 1 1 0;sheet 1 1 0;").odd(3), 1);
        CHECK.is("nine alike", CHECK.of("sheet 0 0 0;".repeat(9)).odd(3), 36);
        CHECK.noSuch("odd(4)", () -> x.odd(4));
        CHECK.noSuch("odd(-1)", () -> x.odd(-1));
    }

    private static void far() {
        TwinInk x = CHECK.of("sheet 0 255 0;sheet 15 3 1;slack 8;");
        CHECK.is("far(0, 1)", x.far(0, 1), 4);
        CHECK.is("far(1, 0)", x.far(1, 0), 2);
        CHECK.is("far(0, 0)", x.far(0, 0), 8);
        x.fire(0);
        CHECK.is("BURNT or not", x.far(0, 1), 4);
        CHECK.noSuch("far(2, 0)", () -> x.far(2, 0));
        CHECK.noSuch("far(0, 2)", () -> x.far(0, 2));
        CHECK.noSuch("far(-1, 0)", () -> x.far(-1, 0));
        CHECK.noSuch("far(0, -1)", () -> x.far(0, -1));
    }
}
