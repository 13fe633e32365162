/** "An object is used for at most 512 calls": runs of just so many calls, the last of which is answered as the first. */
public final class LongRunTest {
    private static final Check CHECK = new Check();
    private static final int NONE = TwinInk.NONE;
    private static final int MOST_CALLS = 512;

    /** Sheets 0 and 1 fit and lie where clerk 0 is on every second DAY; clerk 1 stays with sheet 2. */
    private static final String TEXT = "sheet 0 5 0;sheet 5 9 0;sheet 8 0 1;clerk 0 1;clerk 1;word 0 1;word 1 2;slack 1;";

    /** An object, and how often it was called. */
    private static final class Run {
        final String name;
        final TwinInk ink = new TwinInk();
        int calls = 0;

        Run(String name) {
            this.name = name;
        }

        void is(String call, int got, int due) {
            calls++;
            CHECK.is(name + ", call " + calls + ": " + call, got, due);
        }

        void is(String call, boolean got, boolean due) {
            is(call, got ? 1 : 0, due ? 1 : 0);
        }

        void illegal(String call, Check.Call c) {
            calls++;
            CHECK.illegal(name + ", call " + calls + ": " + call, c);
        }

        void noSuch(String call, Check.Call c) {
            calls++;
            CHECK.noSuch(name + ", call " + calls + ": " + call, c);
        }

        int left() {
            return MOST_CALLS - calls;
        }

        void tell(String text, int due) {
            for (int at = 0; at < text.length(); at += 20) {
                int[] n = Check.numbersAt(text, at);
                is("feed", ink.feed(n[0], n[1], n[2], n[3], n[4]), at + 20);
            }
            is("office", ink.office(text.length()), due);
        }

        void end() {
            CHECK.is("calls of " + name, calls, MOST_CALLS);
        }
    }

    public static void main(String[] args) {
        acts();
        days();
        texts();
        hearsay();
        images();
        refusals();
        throwing();
        questions();
        CHECK.end();
    }

    private static void acts() {
        Run run = new Run("acts");
        run.tell(TEXT, 0);
        int edge = 9;
        int kept = 0;
        int edgeAhead = 0;
        while (run.left() > 42) {
            if (run.left() == 82) {
                edgeAhead = edge;
            }
            edge ^= 1 << kept % 8;
            run.is("forge", run.ink.forge(1, 1, kept % 8), edge);
            kept++;
        }
        for (int left = 39; left >= 0; left--) {
            run.is("undo", run.ink.undo(), left);
        }
        run.is("undo of nothing", run.ink.undo(), NONE);
        run.is("the EDGE ahead of the 40 latest ACTS", run.ink.sheet(1, 1), edgeAhead);
        run.end();
    }

    private static void days() {
        Run run = new Run("days");
        run.tell(TEXT, 0);
        int day = 0;
        while (day + 2 <= 999 && run.left() > 60) {
            int many = Math.min(2 + run.calls % 3, 999 - day);
            day += many;
            run.is("days", run.ink.days(many), day);
        }
        run.is("the DAY", run.ink.count(4), 999);
        int refused = 0;
        while (run.left() > 4) {
            run.is("days above 999", run.ink.days(1 + run.calls % 20), NONE);
            refused++;
        }
        run.is("STATUS 1", run.ink.count(13), refused);
        run.is("ACTS", run.ink.count(9), 40);
        run.is("where clerk 0 is on DAY 999", run.ink.clerk(0, 0), 1);
        run.is("what clerk 0 KNOWS", run.ink.clerk(0, 1), 1);
        run.end();
    }

    /** Each text with a fault takes 36 calls; the office that was told first stays behind all of them. */
    private static void texts() {
        Run run = new Run("texts");
        run.tell(TEXT, 0);
        String bad = "slack 0;" + " ".repeat(691) + "?";
        int refused = 0;
        while (run.left() >= 36 + 4) {
            run.tell(bad, 1);
            refused++;
        }
        while (run.left() > 4) {
            run.is("fault", run.ink.fault(), 699);
        }
        run.is("STATUS 0", run.ink.count(12), refused);
        run.is("SHEETS", run.ink.count(0), 3);
        run.is("SLACK", run.ink.count(3), 1);
        run.is("the tape", run.ink.count(11), 0);
        run.end();
    }

    private static void hearsay() {
        Run run = new Run("hearsay");
        run.tell(TEXT, 0);
        int refused = 0;
        while (run.left() > 20) {
            for (int i = 1; i <= 8; i++) {
                run.is("hear", run.ink.hear(0, 0, 12, false), i);
            }
            run.is("a ninth", run.ink.hear(0, 0, 12, true), NONE);
            refused++;
            run.is("whether so without", run.ink.borne(2), 0);
            run.ink.forget();
            run.calls++;
        }
        run.is("whether so, nothing being HEARD", run.ink.borne(2), 1);
        run.is("hear", run.ink.hear(0, 0, 1, true), 1);
        run.is("hear", run.ink.hear(1, 0, 1, true), 2);
        // Clerk 1 would need both sheets of the word on this DAY, and the one that is supposed brings one of them.
        run.is("BORNE", run.ink.borne(0), 0);
        run.is("STATUS 2", run.ink.count(14), refused);
        while (run.left() > 1) {
            run.is("HEARD", run.ink.count(10), 2);
        }
        run.is("ASK", run.ink.ask(0), NONE);
        run.end();
    }

    private static void images() {
        Run run = new Run("images");
        run.tell(TEXT, 0);
        run.is("restore", run.ink.restore(), false);
        run.is("take", run.ink.take(0, 0), true);
        run.ink.image();
        run.calls++;
        while (run.left() >= 8) {
            run.is("days", run.ink.days(1), 1);
            run.is("leave", run.ink.leave(0, 0), 1);
            run.is("fire", run.ink.fire(1), 5);
            run.is("ACTS", run.ink.count(9), 4);
            run.is("restore", run.ink.restore(), true);
            run.is("SHEETS that are borne", run.ink.count(6), 1);
            run.is("ACTS", run.ink.count(9), 1);
        }
        while (run.left() > 0) {
            run.is("restore", run.ink.restore(), true);
        }
        run.end();
    }

    /** Of each sort some, one behind the other; each is counted by the STATUS of its own. */
    private static void refusals() {
        Run run = new Run("refusals");
        run.tell(TEXT, 0);
        int acts = 0;
        int heard = 0;
        while (run.left() >= 3 + 7) {
            run.is("days", run.ink.days(0), NONE);
            run.is("days", run.ink.days(21), NONE);
            run.is("take", run.ink.take(1, 0), false);
            run.is("leave", run.ink.leave(1, 2), NONE);
            run.is("fire", run.ink.fire(3), NONE);
            run.is("undo", run.ink.undo(), NONE);
            run.is("hear", run.ink.hear(0, 0, 13, true), NONE);
            acts += 5;
            heard++;
        }
        while (run.left() > 3) {
            run.is("ACTS", run.ink.count(9), 0);
        }
        run.is("STATUS 0", run.ink.count(12), 0);
        run.is("STATUS 1", run.ink.count(13), acts);
        run.is("STATUS 2", run.ink.count(14), heard);
        run.end();
    }

    private static void throwing() {
        Run run = new Run("throwing");
        run.tell(TEXT, 0);
        while (run.left() >= 8) {
            run.noSuch("count", () -> run.ink.count(15));
            run.noSuch("take", () -> run.ink.take(2, 0) ? 1 : 0);
            run.noSuch("forge", () -> run.ink.forge(0, 2, 0));
            run.noSuch("row", () -> run.ink.row(3));
            run.illegal("office", () -> run.ink.office(1));
            run.illegal("laid", () -> run.ink.laid(41));
            run.illegal("game", () -> run.ink.game(1, 1, 0));
        }
        while (run.left() > 1) {
            run.is("STATUS 1", run.ink.count(13), 0);
        }
        run.is("ROW", run.ink.row(NONE), 3);
        run.end();
    }

    /** No question changes what the next one answers. */
    private static void questions() {
        Run run = new Run("questions");
        run.tell(TEXT, 0);
        while (run.left() >= 18) {
            run.is("THEN", run.ink.then(0, 40, 1), 1);
            run.is("FIRST", run.ink.first(0, 0), 1);
            run.is("CHAIN", run.ink.chain(1, 0), 2);
            run.is("READ", run.ink.read(1, 0), 1);
            run.is("ROW", run.ink.row(2), 2);
            run.is("COUPLES", run.ink.count(8), 1);
            run.is("LAID", run.ink.laid(40), 1);
            run.is("BORNE", run.ink.borne(0), 6);
            run.is("ASK", run.ink.ask(1), 4);
            run.is("YEARS without any", run.ink.years(1, 0, 1), 3);
            run.is("FIRES", run.ink.fires(1, 5), 7500);
            run.is("TO SAVE", run.ink.toSave(1), 2);
            run.is("TO READ", run.ink.toRead(), 7);
            run.is("TOGETHER", run.ink.together(2), 1);
            run.is("COMPANY", run.ink.company(0, 1, 60), 30);
            run.is("UNREAD", run.ink.unread(40), 1);
            run.is("MEET", run.ink.meet(0, 2), NONE);
        }
        while (run.left() > 0) {
            run.is("the DAY", run.ink.count(4), 0);
        }
        run.end();
    }
}
