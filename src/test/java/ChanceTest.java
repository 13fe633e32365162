/** Promises 32 to 34: fires, the game, years by a seed. */
public final class ChanceTest {
    private static final Check CHECK = new Check();
    private static final int NONE = TwinInk.NONE;

    public static void main(String[] args) {
        fires();
        game();
        years();
        draws();
        CHECK.end();
    }

    private static void fires() {
        TwinInk x = CHECK.of("sheet 0 0 0;sheet 0 0 0;sheet 9 0 1;clerk 0;clerk 1;word 0 1;word 1 2;");
        CHECK.is("one TOWN, 0", x.fires(0, 0), 0);
        CHECK.is("one TOWN, 3", x.fires(0, 3), 3000);
        CHECK.is("one TOWN, 10", x.fires(0, 10), 10000);
        CHECK.is("two TOWNS, 1", x.fires(1, 1), 1900);
        CHECK.is("two TOWNS, 3", x.fires(1, 3), 5100);
        CHECK.is("two TOWNS, 9", x.fires(1, 9), 9900);
        CHECK.is("two TOWNS, 10", x.fires(1, 10), 10000);
        x.take(0, 0);
        CHECK.is("one is borne", x.fires(0, 4), 4000);
        x.take(0, 1);
        CHECK.is("both are borne", x.fires(0, 10), 0);
        CHECK.is("the left one is borne", x.fires(1, 7), 7000);
        x.take(1, 2);
        CHECK.is("both are borne, by two", x.fires(1, 10), 0);
        x.leave(1, 2);
        x.fire(1);
        CHECK.is("BURNT", x.fires(1, 5), NONE);
        CHECK.illegal("BURNT, fires(1, 11)", () -> x.fires(1, 11));
        CHECK.illegal("fires(0, 11)", () -> x.fires(0, 11));
        CHECK.illegal("fires(0, -1)", () -> x.fires(0, -1));
        CHECK.noSuch("fires(2, 11)", () -> x.fires(2, 11));
        CHECK.noSuch("fires(-1, 0)", () -> x.fires(-1, 0));
    }

    private static void game() {
        TwinInk x = CHECK.of("sheet 1 1 0;sheet 1 1 0;sheet 9 9 0;clerk 0;clerk 0 1;clerk 3;word 0 1;word 0 2;");
        CHECK.is("nothing to show", x.game(0, 1, 0), 4);
        CHECK.is("the first", x.game(0, 1, 1), 0);
        x.take(0, 0);
        CHECK.is("one sheet reads nothing", x.game(0, 1, 0), 4);
        x.take(1, 1);
        // Each would give the other one a word: to hold back is better for both.
        CHECK.is("both hold back", x.game(0, 1, 0), 1);
        CHECK.is("(0, 0)", x.game(0, 1, 1), 0);
        CHECK.is("with a third one", x.game(0, 2, 0), 4);
        x.days(1);
        CHECK.is("both KNOW it", x.game(1, 0, 0), 4);
        x.undo();
        x.forge(0, 1, 7);
        CHECK.is("it doesn't FIT", x.game(0, 1, 0), 4);
        CHECK.noSuch("game(3, 3, 0)", () -> x.game(3, 3, 0));
        CHECK.noSuch("game(-1, 0, 0)", () -> x.game(-1, 0, 0));
        CHECK.noSuch("game(0, 3, 0)", () -> x.game(0, 3, 0));
        CHECK.noSuch("game(0, 0, 2)", () -> x.game(0, 0, 2));
        CHECK.noSuch("game(0, 1, -1)", () -> x.game(0, 1, -1));
        CHECK.illegal("game(1, 1, 0)", () -> x.game(1, 1, 0));
        oneKnows();
    }

    private static void oneKnows() {
        // Clerk 0 alone learns the word in town 0; then each bears one of its sheets.
        TwinInk x = CHECK.of("sheet 1 1 0;sheet 1 1 0;clerk 0;clerk 1 0;word 0 1;");
        x.days(1);
        x.take(0, 0);
        x.take(1, 1);
        // Clerk 0 gains nothing by seeing it, so clerk 1 may show; clerk 0 loses by showing.
        CHECK.is("one of them may show", x.game(0, 1, 0), 2);
        CHECK.is("the first", x.game(0, 1, 1), 0);
        CHECK.is("the other way about", x.game(1, 0, 0), 2);
        x.undo();
        x.take(0, 1);
        // Now clerk 0 bears both sheets: clerk 1 reads the word if they are shown.
        CHECK.is("both sheets are one's", x.game(0, 1, 0), 2);
    }

    private static void years() {
        TwinInk x = CHECK.of("sheet 0 0 0;sheet 0 0 1;sheet 0 0 2;sheet 0 0 0;clerk 0 1 2;clerk 1;word 0 3;word 1 0;slack 1;");
        x.take(0, 0);
        CHECK.is("n 0: WORDS", x.years(1, 0, 0), 0);
        CHECK.is("n 0: SHEETS", x.years(1, 0, 1), 4);
        CHECK.is("n 0: borne", x.years(1, 0, 2), 1);
        CHECK.noSuch("years(0, 41, 3)", () -> x.years(0, 41, 3));
        CHECK.noSuch("years(0, 0, -1)", () -> x.years(0, 0, -1));
        CHECK.illegal("years(0, 41, 0)", () -> x.years(0, 41, 0));
        CHECK.illegal("years(0, -1, 2)", () -> x.years(0, -1, 2));
        CHECK.is("the world stays", x.count(4), 0);
        CHECK.is("no SHEETS, no CLERKS", new TwinInk().years(77, 40, 0), 0);
    }

    /** The draws once more, for worlds in which each of the acts can be told from the others. */
    private static void draws() {
        for (int seed = -300; seed < 300; seed++) {
            int[] s = {seed};
            int act = draw(s, 6);
            int next = draw(s, 4);
            TwinInk fire = CHECK.of("sheet 0 0 0;sheet 0 0 1;sheet 0 0 2;sheet 0 0 2;");
            int burnt = act != 0 ? 0 : next == 2 ? 2 : next == 3 ? 0 : 1;
            CHECK.is("SHEETS by seed " + seed, fire.years(seed, 1, 1), 4 - burnt);
            s[0] = seed;
            draw(s, 6);
            int clerk = draw(s, 3);
            TwinInk take = CHECK.of("sheet 0 0 1;sheet 0 0 1;clerk 0;clerk 1;clerk 2;");
            CHECK.is("borne by seed " + seed, take.years(seed, 1, 2), act == 1 && clerk == 1 ? 1 : 0);
            s[0] = seed;
            draw(s, 6);
            int sheet = draw(s, 3);
            int step = draw(s, 8);
            // The step is forged ahead of the day, so the word can be read only if it was the right one.
            TwinInk forge = CHECK.of("sheet 9 0 3;sheet 32 0 3;sheet 9 9 3;clerk 3;word 0 1;");
            CHECK.is("WORDS by seed " + seed, forge.years(seed, 1, 0), act == 2 && sheet == 1 && step == 5 ? 1 : 0);
            nothingToDraw(seed);
        }
    }

    /** Without clerks nothing is drawn behind 1, so that the second day's draw comes at once. */
    private static void nothingToDraw(int seed) {
        int[] s = {seed};
        int act = draw(s, 6);
        if (act == 0) {
            return;
        }
        if (act == 2) {
            draw(s, 1);
            draw(s, 8);
        }
        boolean burns = draw(s, 6) == 0 && draw(s, 4) == 1;
        TwinInk noClerks = CHECK.of("sheet 0 0 1;");
        CHECK.is("without CLERKS, seed " + seed, noClerks.years(seed, 2, 1), burns ? 0 : 1);
    }

    private static int draw(int[] seed, int many) {
        seed[0] = seed[0] * 1103515245 + 12345;
        return (seed[0] >>> 16 & 0x7fff) % many;
    }
}
