/** Parts 4 and 5 of "Terms" and promises 28 to 34, 36 to 39 and 41, sentence by sentence, at their edges. */
public final class HeardEdgeTest {
    private static final Check CHECK = new Check();
    private static final int NONE = TwinInk.NONE;
    private static final String LEARNT = "sheet 1 1 0;sheet 1 1 0;clerk 0;word 0 1;lays day=";

    public static void main(String[] args) {
        heard();
        forgotten();
        heardDays();
        heardFromNowOn();
        bearers();
        bornePairs();
        without();
        asked();
        sixDays();
        fires();
        firesOfBorneOnes();
        game();
        gameGains();
        yearsOfNothing();
        yearsOfFires();
        yearsOfTaking();
        yearsOfForging();
        yearsAmongBurntOnes();
        company();
        together();
        orphans();
        deadAndBlank();
        strangers();
        far();
        heir();
        CHECK.end();
    }

    // ---- part 4

    /** "HEARD (at most 8)"; "HEARD: how much is. NONE (STATUS 2): there are 8, not 0 to 12." */
    private static void heard() {
        TwinInk x = CHECK.of(LEARNT + "0;");
        for (int many = 1; many <= 8; many++) {
            CHECK.is("hear() " + many, x.hear(0, 0, many == 1 ? 0 : 12, many % 2 == 0), many);
            CHECK.is("HEARD", x.count(10), many);
        }
        CHECK.is("hear() 9", x.hear(0, 0, 0, true), NONE);
        CHECK.is("hear() 10", x.hear(0, 0, 12, true), NONE);
        CHECK.is("HEARD still", x.count(10), 8);
        CHECK.is("STATUS 2", x.count(14), 2);
        for (int days = 0; days <= 12; days++) {
            CHECK.is("in " + days, CHECK.of(LEARNT + "0;").hear(0, 0, days, true), 1);
        }
        for (int days : new int[] {Integer.MIN_VALUE, -1, 13, 40, Integer.MAX_VALUE}) {
            TwinInk y = CHECK.of(LEARNT + "0;");
            CHECK.is("in " + days, y.hear(0, 0, days, true), NONE);
            CHECK.is("HEARD of " + days, y.count(10), 0);
            CHECK.is("STATUS 2 by " + days, y.count(14), 1);
            CHECK.noSuch("no such CLERK, ahead of the DAYS", () -> y.hear(1, 0, days, true));
            CHECK.noSuch("no such WORD, ahead of the DAYS", () -> y.hear(0, 1, days, true));
        }
        TwinInk same = CHECK.of(LEARNT + "0;");
        same.hear(0, 0, 1, true);
        CHECK.is("the same once more is one more", same.hear(0, 0, 1, true), 2);
    }

    /** "All that is HEARD is forgotten." */
    private static void forgotten() {
        TwinInk x = CHECK.of(LEARNT + "0;");
        x.forget();
        CHECK.is("nothing to forget", x.count(10), 0);
        for (int i = 0; i < 8; i++) {
            x.hear(0, 0, 0, true);
        }
        CHECK.is("not so", x.borne(2), 0);
        x.forget();
        CHECK.is("forgotten", x.count(10), 0);
        CHECK.is("so", x.borne(2), 1);
        CHECK.is("room again", x.hear(0, 0, 0, true), 1);
        CHECK.is("no STATUS by it", State.status(x), "0 0 0");
    }

    /** "that a CLERK KNOWS a WORD, or doesn't, in so many DAYS (0 to 12)" */
    private static void heardDays() {
        for (int days = 0; days <= 12; days++) {
            for (int day = 0; day <= 12; day++) {
                TwinInk x = CHECK.of(LEARNT + day + ";");
                boolean knows = day < days;
                x.hear(0, 0, days, true);
                CHECK.is("learnt on " + day + ", known in " + days, x.borne(2), knows ? 1 : 0);
                x.forget();
                x.hear(0, 0, days, false);
                CHECK.is("learnt on " + day + ", not known in " + days, x.borne(2), knows ? 0 : 1);
            }
        }
        TwinInk x = CHECK.of(LEARNT + "3;");
        x.hear(0, 0, 3, false);
        x.hear(0, 0, 4, true);
        CHECK.is("both are so", x.borne(2), 1);
        x.hear(0, 0, 4, false);
        CHECK.is("one isn't", x.borne(2), 0);
    }

    /** "did the CLERK bear the SHEET from now on, all HEARD would be so": the DAYS are those from now on. */
    private static void heardFromNowOn() {
        for (int gone = 0; gone <= 14; gone++) {
            for (int days = 0; days <= 12; days++) {
                TwinInk x = CHECK.of(LEARNT + "13;");
                if (gone > 0) {
                    x.days(gone);
                }
                x.hear(0, 0, days, true);
                CHECK.is("HEARD on DAY " + gone + " of " + days, x.borne(2), gone + days > 13 ? 1 : 0);
                CHECK.is("by a pair, too", x.borne(0), gone + days > 13 ? 2 : 0);
                TwinInk ahead = CHECK.of(LEARNT + "13;");
                ahead.hear(0, 0, days, true);
                if (gone > 0) {
                    ahead.days(gone);
                }
                CHECK.is("HEARD ahead of DAY " + gone + " of " + days, ahead.borne(2), gone + days > 13 ? 1 : 0);
                CHECK.is("HEARD still", ahead.count(10), 1);
            }
        }
    }

    /** "CLERKS and SHEETS (not BURNT, another bearer than it has)": how many, 0 to 54 */
    private static void bearers() {
        CHECK.is("a new object", new TwinInk().borne(0), 0);
        CHECK.is("its first", new TwinInk().borne(1), NONE);
        CHECK.is("it is so without", new TwinInk().borne(2), 1);
        CHECK.is("no CLERKS", CHECK.of("sheet 1 1 0;").borne(0), 0);
        CHECK.is("no SHEETS", CHECK.of("clerk 0;").borne(0), 0);
        for (int sheets = 1; sheets <= 9; sheets++) {
            for (int clerks = 1; clerks <= 6; clerks++) {
                TwinInk x = CHECK.of("sheet 1 1 0;".repeat(sheets - 1) + "sheet 1 1 1;" + "clerk 0;".repeat(clerks - 1) + "clerk 1;");
                CHECK.is("all pairs", x.borne(0), sheets * clerks);
                CHECK.is("the first", x.borne(1), 0);
                x.take(clerks - 1, sheets - 1);
                CHECK.is("but its bearer's", x.borne(0), sheets * clerks - 1);
                CHECK.is("the first of these", x.borne(1), sheets * clerks == 1 ? NONE : 0);
                x.fire(0);
                CHECK.is("but BURNT ones", x.borne(0), clerks - 1);
                x.leave(clerks - 1, sheets - 1);
                CHECK.is("with its last bearer's", x.borne(0), clerks);
                CHECK.is("the first is the last SHEET", x.borne(1), sheets - 1);
                x.fire(1);
                CHECK.is("all are BURNT", x.borne(0), 0);
                CHECK.is("no first", x.borne(1), NONE);
            }
        }
    }

    /** "the first (10 by the CLERK, and the SHEET)": each pair once as the only one */
    private static void bornePairs() {
        for (int clerk = 0; clerk < 6; clerk++) {
            for (int sheet = 0; sheet < 9; sheet++) {
                // The word's left sheet is this one, in town 2; its right one lies where this clerk alone is.
                StringBuilder text = new StringBuilder();
                int twin = (sheet + 1) % 9;
                for (int i = 0; i < 9; i++) {
                    text.append("sheet 1 1 ").append(i == twin ? 3 : i == sheet ? 2 : 0).append(';');
                }
                for (int i = 0; i < 6; i++) {
                    text.append("clerk ").append(i == clerk ? 3 : 1).append(';');
                }
                TwinInk x = CHECK.of(text + "word " + sheet + " " + twin + ";");
                x.hear(clerk, 0, 1, true);
                CHECK.is("how many", x.borne(0), 1);
                CHECK.is("the first", x.borne(1), 10 * clerk + sheet);
                CHECK.is("not without", x.borne(2), 0);
                CHECK.is("whom to ask", x.ask(0), 0);
                CHECK.is("one by it", x.ask(1), 1);
            }
        }
    }

    /** "whether it is so without (1)" */
    private static void without() {
        TwinInk x = CHECK.of("sheet 1 1 0;sheet 1 1 0;clerk 0;clerk 1;word 0 1;");
        x.hear(0, 0, 1, true);
        CHECK.is("so without", x.borne(2), 1);
        // A sheet in clerk 0's hands is still there; in clerk 1's it is not.
        CHECK.is("so by clerk 0's hands alone", x.borne(0), 2);
        x.hear(1, 0, 12, true);
        CHECK.is("not so without", x.borne(2), 0);
        CHECK.is("nor by any", x.borne(0), 0);
        CHECK.is("none is the first", x.borne(1), NONE);
        CHECK.noSuch("what 3", () -> x.borne(3));
        CHECK.noSuch("what -1", () -> x.borne(-1));
    }

    /** "ASK NEXT: the CLERK of whom what one KNOWS in 6 DAYS by these would be most unlike (of like ones the least): how many; none" */
    private static void asked() {
        CHECK.is("a new object", new TwinInk().ask(0), NONE);
        CHECK.is("a new object, how many", new TwinInk().ask(1), 0);
        CHECK.is("no SHEETS", CHECK.of("clerk 0;").ask(0), NONE);
        CHECK.is("no CLERKS", CHECK.of("sheet 1 1 0;").ask(0), NONE);
        CHECK.is("one pair", CHECK.of("sheet 1 1 0;clerk 0;").ask(0), 0);
        CHECK.is("one pair, how many", CHECK.of("sheet 1 1 0;clerk 0;").ask(1), 1);
        CHECK.is("six alike", CHECK.of("sheet 1 1 0;" + "clerk 0;".repeat(6)).ask(0), 0);
        TwinInk borne = CHECK.of("sheet 1 1 0;clerk 0;");
        borne.take(0, 0);
        CHECK.is("no other bearer", borne.ask(0), NONE);
        CHECK.is("no other bearer, how many", borne.ask(1), 0);
        for (int one = 0; one < 6; one++) {
            // One clerk learns the word by some pairs, and all others are where it never shows.
            TwinInk x = CHECK.of("sheet 1 1 0;sheet 1 1 2;" + "clerk 1;".repeat(one) + "clerk 0;" + "clerk 1;".repeat(5 - one)
                + "word 0 1;");
            CHECK.is("the one of six", x.ask(0), one);
            CHECK.is("two by the one", x.ask(1), 2);
            x.hear(one, 0, 0, true);
            CHECK.is("none by what isn't so", x.ask(0), NONE);
            CHECK.is("none, how many", x.ask(1), 0);
        }
        // By each of three sheets that clerk 0 might bear one knows another set.
        TwinInk x = CHECK.of("sheet 1 1 0;sheet 1 1 1;sheet 1 1 1;sheet 1 1 1;clerk 0;word 0 1;word 0 2;word 3 0;");
        CHECK.is("three, and nothing by the fourth", x.ask(1), 4);
        CHECK.noSuch("what 2", () -> x.ask(2));
        CHECK.noSuch("what -1", () -> x.ask(-1));
        // All 54 pairs: by each of eight sheets that clerk 5 might bear one knows another word, and nothing by the ninth.
        StringBuilder full = new StringBuilder("sheet 1 1 3;" + "sheet 1 1 2;".repeat(8) + "clerk 0;".repeat(5) + "clerk 3;");
        for (int sheet = 1; sheet <= 8; sheet++) {
            full.append("word 0 ").append(sheet).append(';');
        }
        TwinInk all = CHECK.of(full.toString());
        CHECK.is("54 pairs", all.borne(0), 54);
        CHECK.is("the last CLERK", all.ask(0), 5);
        CHECK.is("nine by the last CLERK", all.ask(1), 9);
        all.hear(5, 7, 12, true);
        CHECK.is("one pair is left", all.borne(1), 58);
        CHECK.is("the least CLERK then", all.ask(0), 0);
        CHECK.is("one by each", all.ask(1), 1);
    }

    /** "what one KNOWS in 6 DAYS" */
    private static void sixDays() {
        for (int day = 0; day <= 12; day++) {
            TwinInk x = CHECK.of("sheet 1 1 0;sheet 1 1 1;clerk 0;word 0 1;lays day=" + day + ";");
            CHECK.is("laid on DAY " + day, x.ask(1), day < 6 ? 2 : 1);
            TwinInk heard = CHECK.of("sheet 1 1 0;sheet 1 1 1;clerk 0;word 0 1;lays day=" + day + ";");
            heard.hear(0, 0, 12, true);
            CHECK.is("laid on DAY " + day + ", HEARD of the twelfth", heard.ask(1), day < 12 ? 1 : 0);
            // What is HEARD of a later DAY moves the six DAYS no more than what is HEARD of this one.
            for (int days = 0; days <= 12; days++) {
                TwinInk other = CHECK.of("sheet 1 1 0;sheet 1 1 1;sheet 4 8 2;clerk 0;word 0 1;word 2 1;lays day=" + day + ";");
                other.hear(0, 1, days, false);
                CHECK.is("laid on DAY " + day + ", HEARD of another WORD in " + days, other.ask(1), day < 6 ? 2 : 1);
            }
        }
    }

    /** "so many tenths (0 to 10) .. as so many of 10000"; "NONE: a SHEET of it is BURNT" */
    private static void fires() {
        TwinInk x = CHECK.of("sheet 1 2 0;sheet 1 2 0;sheet 1 2 3;clerk 3;word 0 1;word 1 2;word 2 1;");
        for (int tenths = 0; tenths <= 10; tenths++) {
            CHECK.is("one TOWN, " + tenths, x.fires(0, tenths), 1000 * tenths);
            int spared = 10 - tenths;
            CHECK.is("two TOWNS, " + tenths, x.fires(1, tenths), 10000 - 100 * spared * spared);
            CHECK.is("two TOWNS, the other way, " + tenths, x.fires(2, tenths), 10000 - 100 * spared * spared);
        }
        CHECK.illegal("tenths -1", () -> x.fires(0, -1));
        CHECK.illegal("tenths 11", () -> x.fires(0, 11));
        CHECK.noSuch("no such WORD, ahead of the tenths", () -> x.fires(3, 11));
        x.fire(3);
        CHECK.is("the right one is BURNT", x.fires(1, 0), NONE);
        CHECK.is("the left one is BURNT", x.fires(2, 10), NONE);
        CHECK.is("another WORD", x.fires(0, 10), 10000);
        CHECK.illegal("BURNT, tenths 11", () -> x.fires(1, 11));
        CHECK.illegal("BURNT, tenths -1", () -> x.fires(1, -1));
        x.fire(0);
        CHECK.is("both are BURNT", x.fires(0, 5), NONE);
    }

    private static void firesOfBorneOnes() {
        TwinInk x = CHECK.of("sheet 1 1 0;sheet 1 1 0;sheet 1 1 3;clerk 0;clerk 3;word 0 1;word 1 2;");
        x.take(0, 1);
        for (int tenths = 0; tenths <= 10; tenths++) {
            CHECK.is("the right one is borne, " + tenths, x.fires(0, tenths), 1000 * tenths);
            CHECK.is("the left one is borne, " + tenths, x.fires(1, tenths), 1000 * tenths);
        }
        x.take(0, 0);
        x.take(1, 2);
        for (int tenths = 0; tenths <= 10; tenths++) {
            CHECK.is("both are borne by one, " + tenths, x.fires(0, tenths), 0);
            CHECK.is("both are borne by two, " + tenths, x.fires(1, tenths), 0);
        }
    }

    /** "A couple RESTS, if neither gains more by the other choice: how many; the first" */
    private static void game() {
        TwinInk x = CHECK.of("sheet 1 1 0;sheet 1 1 0;clerk 0;clerk 0;word 0 1;");
        CHECK.is("nothing is borne", x.game(0, 1, 0), 4);
        CHECK.is("the first is (0, 0)", x.game(0, 1, 1), 0);
        x.take(0, 0);
        CHECK.is("one half is borne", x.game(0, 1, 0), 4);
        x.take(1, 1);
        CHECK.is("each would lose by showing", x.game(0, 1, 0), 1);
        CHECK.is("the first", x.game(0, 1, 1), 0);
        x.days(1);
        CHECK.is("each KNOWS it", x.game(0, 1, 0), 4);
        CHECK.noSuch("both are one, what 2", () -> x.game(0, 0, 2));
        CHECK.noSuch("both are one, what -1", () -> x.game(0, 0, -1));
        CHECK.noSuch("both are one that isn't there", () -> x.game(2, 2, 0));
        CHECK.illegal("both are one, what 0", () -> x.game(1, 1, 0));
        CHECK.illegal("both are one, what 1", () -> x.game(1, 1, 1));
        CHECK.illegal("the only one", () -> CHECK.of("clerk 0;").game(0, 0, 0));
        CHECK.noSuch("no CLERKS", () -> new TwinInk().game(0, 0, 0));
    }

    /** "each gains 3 for each that one reads and doesn't KNOW, and loses 2 for each that the other one reads and doesn't KNOW" */
    private static void gameGains() {
        String text = "sheet 1 1 0;sheet 1 1 0;sheet 1 2 0;clerk 0;clerk 0;clerk 1 0;word 0 1;word 2 0;";
        TwinInk x = CHECK.of(text);
        x.take(0, 0);
        x.take(0, 1);
        // The one who has both sheets would lose by showing; the other one has nothing to hold back.
        CHECK.is("one bears both", x.game(0, 1, 0), 2);
        CHECK.is("seen from the other one", x.game(1, 0, 0), 2);
        x.take(1, 2);
        CHECK.is("a third sheet that doesn't FIT", x.game(0, 1, 0), 2);
        TwinInk known = CHECK.of(text);
        known.days(1);
        known.take(0, 0);
        known.take(2, 1);
        // Clerk 0 knows the word, clerk 2 doesn't: clerk 0 loses by showing, clerk 2 does not.
        CHECK.is("one KNOWS it", known.game(0, 2, 0), 2);
        CHECK.is("the first", known.game(0, 2, 1), 0);
        known.undo();
        known.take(1, 1);
        CHECK.is("both KNOW it", known.game(0, 1, 0), 4);
    }

    // ---- years

    /** "(Without CLERKS nothing is drawn behind 1, without SHEETS nothing behind 2.)" */
    private static void yearsOfNothing() {
        for (int seed : new int[] {Integer.MIN_VALUE, -1, 0, 1, 12345, Integer.MAX_VALUE}) {
            for (int what = 0; what < 3; what++) {
                CHECK.is("a new object", new TwinInk().years(seed, 40, what), 0);
                CHECK.is("no SHEETS", CHECK.of("clerk 0;clerk 1 2;").years(seed, 40, what), 0);
            }
            TwinInk x = CHECK.of("sheet 1 1 0;sheet 1 1 1;clerk 0;word 0 1;");
            x.take(0, 0);
            CHECK.is("0 DAYS: WORDS", x.years(seed, 0, 0), 0);
            CHECK.is("0 DAYS: SHEETS", x.years(seed, 0, 1), 2);
            CHECK.is("0 DAYS: borne", x.years(seed, 0, 2), 1);
            CHECK.illegal("-1 DAYS", () -> x.years(seed, -1, 0));
            CHECK.illegal("41 DAYS", () -> x.years(seed, 41, 0));
            CHECK.noSuch("what 3, ahead of the DAYS", () -> x.years(seed, 41, 3));
            CHECK.noSuch("what -1, ahead of the DAYS", () -> x.years(seed, -1, -1));
        }
    }

    private static int draw(int[] seed, int many) {
        seed[0] = seed[0] * 1103515245 + 12345;
        return (seed[0] >>> 16 & 0x7fff) % many;
    }

    private static int seedOf(int i) {
        return i == 0 ? Integer.MIN_VALUE : i == 1 ? Integer.MAX_VALUE : i * 7919 - 99999;
    }

    /** "0 a FIRE in a DRAW of 4", with SHEETS and no CLERKS, 0 to 40 DAYS */
    private static void yearsOfFires() {
        for (int i = 0; i < 60; i++) {
            int n = i % 41;
            int[] seed = {seedOf(i)};
            boolean[] burnt = new boolean[4];
            for (int day = 0; day < n; day++) {
                int act = draw(seed, 6);
                if (act == 0) {
                    burnt[draw(seed, 4)] = true;
                } else if (act == 2) {
                    draw(seed, 5);
                    draw(seed, 8);
                }
            }
            int due = (burnt[0] ? 0 : 1) + (burnt[1] ? 0 : 2) + (burnt[2] ? 0 : 1) + (burnt[3] ? 0 : 1);
            TwinInk x = CHECK.of("sheet 1 1 0;sheet 1 1 1;sheet 1 1 1;sheet 1 1 2;sheet 1 1 3;");
            CHECK.is("SHEETS by " + seedOf(i) + " in " + n, x.years(seedOf(i), n, 1), due);
            CHECK.is("none is borne", x.years(seedOf(i), n, 2), 0);
        }
    }

    /** "1 a DRAW of CLERKS TAKES the least SHEET of the archive there, if there is one" */
    private static void yearsOfTaking() {
        for (int i = 0; i < 60; i++) {
            int n = i % 41;
            int[] seed = {seedOf(i)};
            // The archives hold sheets 0 and 2, 1, 3, none; clerks are in town 0, in town 1, and now here, now there.
            String[] archives = {"02", "1", "3", ""};
            int borne = 0;
            for (int day = 0; day < n; day++) {
                int act = draw(seed, 6);
                if (act == 0) {
                    archives[draw(seed, 4)] = "";
                } else if (act == 1) {
                    int clerk = draw(seed, 3);
                    int town = clerk < 2 ? clerk : new int[] {2, 3, 0, 1}[day % 4];
                    borne += archives[town].isEmpty() ? 0 : 1;
                    archives[town] = archives[town].isEmpty() ? "" : archives[town].substring(1);
                } else if (act == 2) {
                    draw(seed, 4);
                    draw(seed, 8);
                }
            }
            int left = String.join("", archives).length();
            TwinInk x = CHECK.of("sheet 1 1 0;sheet 1 1 1;sheet 1 1 0;sheet 1 1 2;clerk 0;clerk 1;clerk 2 3 0 1;");
            CHECK.is("borne by " + seedOf(i) + " in " + n, x.years(seedOf(i), n, 2), borne);
            CHECK.is("SHEETS by " + seedOf(i) + " in " + n, x.years(seedOf(i), n, 1), borne + left);
        }
    }

    /** "2 a DRAW of SHEETS, one of 8: this STEP of its LEFT EDGE is FORGED"; the least SHEET is the one that is taken */
    private static void yearsOfForging() {
        for (int i = 0; i < 300; i++) {
            int[] seed = {seedOf(i)};
            int act = draw(seed, 6);
            int sheet = draw(seed, 2);
            int step = draw(seed, 8);
            for (int due = 0; due < 8; due++) {
                // Without slack the word is read if just this step is forged.
                TwinInk x = CHECK.of("sheet 0 " + (1 << due) + " 0;sheet 0 0 0;clerk 0;word 0 1;");
                CHECK.is("WORDS by " + seedOf(i), x.years(seedOf(i), 1, 0), act == 2 && sheet == 1 && step == due ? 1 : 0);
            }
            TwinInk least = CHECK.of("sheet 1 2 0;sheet 2 1 0;sheet 2 1 1;clerk 0 1;word 0 2;");
            CHECK.is("the least is borne to its twin by " + seedOf(i), least.years(seedOf(i), 2, 0), leastIsBorne(seedOf(i)));
        }
    }

    /** "a DRAW of SHEETS": of all that there are, BURNT ones too, which changes nothing. */
    private static void yearsAmongBurntOnes() {
        int forged = 0;
        for (int i = 0; i < 300; i++) {
            int[] seed = {seedOf(i)};
            int act = draw(seed, 6);
            int sheet = draw(seed, 4);
            int step = draw(seed, 8);
            boolean isForged = act == 2 && sheet == 3;
            forged += isForged ? 1 : 0;
            TwinInk x = CHECK.of("sheet 0 0 3;sheet 0 0 3;sheet 0 " + (1 << step) + " 0;sheet 0 0 0;clerk 0;word 2 3;");
            x.fire(3);
            CHECK.is("WORDS by " + seedOf(i) + " with BURNT ones", x.years(seedOf(i), 1, 0), isForged ? 1 : 0);
        }
        CHECK.is("some seeds forge the last SHEET", forged > 0, true);
        // All are burnt: nothing can be lost, taken or read, and the true ones stay as they are.
        TwinInk x = CHECK.of("sheet 1 1 0;sheet 1 1 0;clerk 0;word 0 1;");
        x.fire(0);
        for (int i = 0; i < 20; i++) {
            for (int what = 0; what < 3; what++) {
                CHECK.is("all are BURNT", x.years(seedOf(i), 40, what), 0);
            }
        }
        CHECK.is("the true LEFT EDGE", x.sheet(0, 0), 1);
    }

    private static int leastIsBorne(int from) {
        int[] seed = {from};
        int[] left = {1, 2, 2};
        boolean isBorne = false;
        boolean isThere = true;
        boolean twinIsThere = true;
        boolean isKnown = false;
        for (int day = 0; day < 2; day++) {
            int act = draw(seed, 6);
            if (act == 0) {
                int town = draw(seed, 4);
                isThere &= town != 0 || isBorne;
                twinIsThere &= town != 1;
            } else if (act == 1) {
                draw(seed, 1);
                isBorne |= day == 0;
                // Behind the second of them the twin is in the same hands.
            } else if (act == 2) {
                int sheet = draw(seed, 3);
                left[sheet] ^= 1 << draw(seed, 8);
            }
            isKnown |= day == 1 && isBorne && isThere && twinIsThere && left[2] == 2;
        }
        return isKnown ? 1 : 0;
    }

    // ---- part 5

    /** "COMPANY: on how many of so many DAYS (1 to 60, this one the first) two CLERKS are in one TOWN" */
    private static void company() {
        TwinInk x = CHECK.of("clerk 0 0 0 0 3;clerk 1 1 1 1 1 3;clerk 0;");
        for (int days = 1; days <= 60; days++) {
            CHECK.is("rounds of 5 and 6 in " + days, x.company(0, 1, days), days / 30);
            CHECK.is("this DAY the first, in " + days, x.company(0, 2, days), days - days / 5);
            CHECK.is("the other way in " + days, x.company(2, 0, days), days - days / 5);
            CHECK.is("oneself in " + days, x.company(1, 1, days), days);
            CHECK.is("never in " + days, x.company(1, 2, days), 0);
        }
        CHECK.illegal("in 0", () -> x.company(0, 1, 0));
        CHECK.illegal("in -1", () -> x.company(0, 1, -1));
        CHECK.illegal("in 61", () -> x.company(0, 1, 61));
        CHECK.noSuch("no such CLERK, ahead of the DAYS", () -> x.company(3, 0, 0));
        CHECK.noSuch("no such other, ahead of the DAYS", () -> x.company(0, 3, 61));
        x.days(9);
        x.days(20);
        CHECK.is("on this DAY", x.company(0, 1, 1), 1);
        CHECK.is("from this DAY on", x.company(0, 1, 31), 2);
    }

    /** "TOGETHER: the first DAY from now (0 is this one, to 60) on which so many CLERKS (1 to 6), or more, are in one TOWN" */
    private static void together() {
        CHECK.is("no CLERKS", new TwinInk().together(1), NONE);
        CHECK.is("no CLERKS, six", new TwinInk().together(6), NONE);
        for (int clerks = 1; clerks <= 6; clerks++) {
            TwinInk x = CHECK.of("clerk 3;".repeat(clerks));
            for (int many = 1; many <= 6; many++) {
                CHECK.is(many + " of " + clerks, x.together(many), many <= clerks ? 0 : NONE);
            }
        }
        for (int town = 0; town < 4; town++) {
            int other = (town + 1) % 4;
            TwinInk x = CHECK.of("clerk " + other + " " + town + ";clerk " + town + ";clerk " + (town + 2) % 4 + " " + town + ";");
            CHECK.is("two in TOWN " + town, x.together(2), 1);
            CHECK.is("three in TOWN " + town, x.together(3), 1);
        }
        TwinInk late = CHECK.of("clerk 0 0 3;clerk 1 1 1 3;clerk 2 2 2 2 3;");
        CHECK.is("in 59", late.together(3), 59);
        CHECK.is("two in 11", late.together(2), 11);
        CHECK.is("one now", late.together(1), 0);
        CHECK.is("four never", late.together(4), NONE);
        TwinInk apart = CHECK.of("clerk 0 1;clerk 1 0;");
        CHECK.is("never", apart.together(2), NONE);
        CHECK.illegal("0", () -> late.together(0));
        CHECK.illegal("-1", () -> late.together(-1));
        CHECK.illegal("7", () -> late.together(7));
        CHECK.illegal("7 without CLERKS", () -> new TwinInk().together(7));
    }

    /** "ORPHANS: SHEETS that aren't BURNT, and FIT left of none, and none of which FITS left of them" */
    private static void orphans() {
        CHECK.is("no SHEETS", new TwinInk().odd(0), 0);
        CHECK.is("one", CHECK.of("sheet 1 1 0;").odd(0), 1);
        CHECK.is("nine", CHECK.of("sheet 1 2 0;".repeat(9)).odd(0), 511);
        CHECK.is("nine alike", CHECK.of("sheet 1 1 0;".repeat(9)).odd(0), 0);
        CHECK.is("left of one, right of one", CHECK.of("sheet 1 2 0;sheet 2 4 1;sheet 8 16 2;").odd(0), 4);
        TwinInk x = CHECK.of("sheet 1 2 0;sheet 2 4 1;sheet 8 16 2;");
        x.fire(0);
        CHECK.is("the twin is BURNT", x.odd(0), 6);
        x.fire(2);
        CHECK.is("BURNT ones aren't", x.odd(0), 2);
    }

    /** "DEAD: WORDS of which a SHEET is BURNT"; "BLANK: WORDS neither of whose SHEETS is BURNT, that don't FIT" */
    private static void deadAndBlank() {
        CHECK.is("no WORDS: DEAD", new TwinInk().odd(1), 0);
        CHECK.is("no WORDS: BLANK", new TwinInk().odd(2), 0);
        TwinInk x = CHECK.of("sheet 1 2 0;sheet 2 4 1;sheet 8 16 2;word 0 1;word 1 0;word 1 2;word 2 0;");
        CHECK.is("none is DEAD", x.odd(1), 0);
        CHECK.is("BLANK", x.odd(2), 0b1110);
        x.fire(0);
        CHECK.is("DEAD, the left or the right one", x.odd(1), 0b1011);
        CHECK.is("BLANK, but not DEAD", x.odd(2), 0b0100);
        x.fire(1);
        x.fire(2);
        CHECK.is("all are DEAD", x.odd(1), 0b1111);
        CHECK.is("none is BLANK", x.odd(2), 0);
        CHECK.noSuch("what 4", () -> x.odd(4));
        CHECK.noSuch("what -1", () -> x.odd(-1));
    }

    /** "STRANGERS: couples of SHEETS of which one FITS left of the other one, this way or that, and of which there is no WORD" */
    private static void strangers() {
        CHECK.is("no SHEETS", new TwinInk().odd(3), 0);
        CHECK.is("one", CHECK.of("sheet 1 1 0;").odd(3), 0);
        for (int many = 2; many <= 9; many++) {
            CHECK.is(many + " alike", CHECK.of("sheet 1 1 0;".repeat(many)).odd(3), many * (many - 1) / 2);
        }
        CHECK.is("this way", CHECK.of("sheet 1 2 0;sheet 2 4 3;").odd(3), 1);
        CHECK.is("that way", CHECK.of("sheet 2 4 0;sheet 1 2 3;").odd(3), 1);
        CHECK.is("a WORD this way", CHECK.of("sheet 1 2 0;sheet 2 4 3;word 0 1;").odd(3), 0);
        CHECK.is("a WORD that way", CHECK.of("sheet 1 2 0;sheet 2 4 3;word 1 0;").odd(3), 0);
        CHECK.is("a WORD of others", CHECK.of("sheet 1 1 0;sheet 1 1 3;sheet 1 1 2;word 0 1;word 1 0;").odd(3), 2);
        TwinInk x = CHECK.of("sheet 1 1 0;sheet 1 1 1;sheet 1 1 2;");
        x.fire(0);
        CHECK.is("without BURNT ones", x.odd(3), 1);
        x.fire(2);
        CHECK.is("one alone", x.odd(3), 0);
    }

    /** "FAR: the number of STEPS at which the RIGHT EDGE of one and the LEFT EDGE of another one differ", "BURNT or not" */
    private static void far() {
        for (int steps = 0; steps <= 8; steps++) {
            TwinInk x = CHECK.of("sheet 0 " + (255 >> 8 - steps) + " 0;sheet 0 255 1;slack 8;");
            CHECK.is("FAR", x.far(0, 1), steps);
            CHECK.is("FAR, the other way", x.far(1, 0), 8);
            x.fire(0);
            CHECK.is("FAR, the one BURNT", x.far(0, 1), steps);
            x.fire(1);
            CHECK.is("FAR, both BURNT", x.far(0, 1), steps);
        }
    }

    /** "A HEIR of a CLERK: the other one who KNOWS most of what that one KNOWS (of like ones the least); none." */
    private static void heir() {
        CHECK.is("no other one", CHECK.of("clerk 0;").heir(0), NONE);
        CHECK.noSuch("no CLERKS", () -> new TwinInk().heir(0));
        TwinInk six = CHECK.of("clerk 0;".repeat(6));
        for (int clerk = 0; clerk < 6; clerk++) {
            CHECK.is("of like ones the least", six.heir(clerk), clerk == 0 ? 1 : 0);
        }
        for (int one = 0; one < 5; one++) {
            // Clerk 5 learns two words; one of the others both of them, the rest one that is not among these two.
            StringBuilder text = new StringBuilder("sheet 1 1 0;sheet 1 1 0;sheet 1 1 1;sheet 1 1 1;");
            for (int clerk = 0; clerk < 5; clerk++) {
                text.append(clerk == one ? "clerk 0;" : "clerk 1;");
            }
            TwinInk x = CHECK.of(text + "clerk 0;word 0 1;word 1 0;word 2 3;word 3 2;");
            x.days(1);
            CHECK.is("who KNOWS most of it", x.heir(5), one);
            CHECK.is("the other way about", x.heir(one), 5);
        }
        // What counts is what that one knows: clerk 1 knows more, but less of it.
        TwinInk x = CHECK.of("sheet 1 1 0;sheet 1 1 0;sheet 1 1 1;sheet 1 1 1;sheet 1 1 2;sheet 1 1 2;"
            + "clerk 0;clerk 1 2;clerk 0 3;word 0 1;word 2 3;word 4 5;word 3 2;");
        x.days(2);
        CHECK.is("not the wisest", x.heir(0), 2);
    }
}
