/** Parts 1 and 2 of "Terms" and promises 10 to 15, 43 and 44, sentence by sentence, at their edges. */
public final class DayEdgeTest {
    private static final Check CHECK = new Check();
    private static final int NONE = TwinInk.NONE;
    private static final String LEAST_INT = "1024*1024*2048";
    private static final String MOST_INT = LEAST_INT + "-1";

    public static void main(String[] args) {
        rounds();
        fitting();
        everyStepCounts();
        showing();
        burntOnes();
        laysGives();
        withoutRules();
        knowing();
        mouldGives();
        mouldSteps();
        numbers();
        townValues();
        sheetValues();
        daysAtOnce();
        lastDay();
        fortyActs();
        fortyAgain();
        undoEach();
        takeAndLeave();
        forging();
        burning();
        image();
        CHECK.end();
    }

    // ---- part 1

    /** "a ROUND (1 to 6 TOWNS): on DAY d one is in the (d MOD how many)-th" */
    private static void rounds() {
        int[] towns = {2, 0, 3, 1, 1, 2};
        for (int many = 1; many <= 6; many++) {
            StringBuilder text = new StringBuilder("clerk");
            for (int i = 0; i < many; i++) {
                text.append(' ').append(towns[i]);
            }
            TwinInk x = CHECK.of(text + ";");
            for (int day = 0; day <= 14; day++) {
                CHECK.is("TOWN on DAY " + day + " of " + text, x.clerk(0, 0), towns[day % many]);
                x.days(1);
            }
            x.days(4);
            for (int i = 0; i < 49; i++) {
                x.days(20);
            }
            CHECK.is("TOWN on DAY 999 of " + text, x.clerk(0, 0), towns[999 % many]);
            for (int days = 0; days <= 40; days++) {
                CHECK.is("TOWN beyond 999 of " + text, x.then(0, days, 0), towns[(999 + days) % many]);
            }
        }
    }

    /** "FITS .. if .. differ at no more STEPS than SLACK", SLACK from 0 to 8 */
    private static void fitting() {
        for (int slack = 0; slack <= 8; slack++) {
            for (int steps = 0; steps <= 8; steps++) {
                String text = "sheet 0 " + ((1 << steps) - 1) + " 0;sheet 0 255 0;clerk 0;word 0 1;slack " + slack + ";";
                TwinInk x = CHECK.of(text);
                boolean fits = steps <= slack;
                CHECK.is("FITTING of '" + text + "'", x.sheet(0, 4), fits ? 2 : 0);
                CHECK.is("SHOWS by '" + text + "'", x.word(0, 2), fits ? 0 : NONE);
                CHECK.is("SHOWS there by '" + text + "'", x.town(0, 3), fits ? 1 : 0);
                CHECK.is("TO FORGE by '" + text + "'", x.toForge(0, 1), fits ? 0 : steps - slack);
                CHECK.is("FAR by '" + text + "'", x.far(0, 1), steps);
                CHECK.is("BLANK by '" + text + "'", x.odd(2), fits ? 0 : 1);
                CHECK.is("TO READ by '" + text + "'", x.toRead(), fits ? 3 : 0);
                CHECK.is("COUPLES by '" + text + "'", x.count(8), fits || slack == 8 ? 1 : 0);
                CHECK.is("ROW by '" + text + "'", x.row(NONE), fits || slack == 8 ? 2 : 1);
                CHECK.is("ORPHANS by '" + text + "'", x.odd(0), fits || slack == 8 ? 0 : 3);
                CHECK.is("FIRST by '" + text + "'", x.first(0, 0), fits ? 1 : NONE);
            }
        }
    }

    /** "8 STEPS as bits": each of them counts, and the EDGES on the other sides don't. */
    private static void everyStepCounts() {
        for (int step = 0; step < 8; step++) {
            String sheets = "sheet 77 " + (255 ^ 1 << step) + " 0;sheet 255 77 0;word 0 1;";
            CHECK.is("STEP " + step + " without SLACK", CHECK.of(sheets).word(0, 2), NONE);
            CHECK.is("STEP " + step + " with SLACK 1", CHECK.of(sheets + "slack 1;").word(0, 2), 0);
            TwinInk x = CHECK.of(sheets);
            x.forge(0, 1, step);
            CHECK.is("STEP " + step + " forged", x.word(0, 2), 0);
        }
    }

    // ---- part 2

    /** "A WORD SHOWS in a TOWN, if both SHEETS are there, and the one FITS left of the other one as told." */
    private static void showing() {
        String text = "sheet 1 2 3;sheet 2 4 3;clerk 3 0;clerk 3 1 0;word 0 1;word 1 0;";
        TwinInk x = CHECK.of(text);
        CHECK.is("both in one archive", x.word(0, 2), 3);
        CHECK.is("not the other way about", x.word(1, 2), NONE);
        CHECK.is("the TOWN's", x.town(3, 3), 1);
        x.take(0, 0);
        CHECK.is("one borne there", x.word(0, 2), 3);
        x.take(1, 1);
        CHECK.is("both borne there, by two", x.word(0, 2), 3);
        x.days(1);
        CHECK.is("borne to two TOWNS", x.word(0, 2), NONE);
        x.undo();
        x.leave(1, 1);
        x.take(0, 1);
        x.days(1);
        CHECK.is("both borne by one, elsewhere", x.word(0, 2), 0);
        CHECK.is("the TOWN's then", x.town(0, 3), 1);
        CHECK.is("no longer the other TOWN's", x.town(3, 3), 0);
        x.leave(0, 0);
        CHECK.is("one left there", x.word(0, 2), 0);
        x.fire(0);
        CHECK.is("one BURNT", x.word(0, 2), NONE);
        CHECK.is("one alone is in the TOWN", x.town(0, 3), 0);
    }

    /** "BURNT (it is nowhere, and has no part in anything)" */
    private static void burntOnes() {
        TwinInk x = CHECK.of("sheet 1 1 0;sheet 1 1 1;clerk 1;clerk 0;word 0 1;word 1 0;moulds 1;");
        x.fire(0);
        CHECK.is("nowhere", x.sheet(0, 2), NONE);
        CHECK.is("nobody's", x.sheet(0, 3), NONE);
        CHECK.is("FITS none", x.sheet(0, 4), 0);
        CHECK.is("none FITS it", x.sheet(1, 4), 0);
        for (int town = 0; town < 4; town++) {
            CHECK.is("in no archive", x.town(town, 0), town == 1 ? 2 : 0);
            CHECK.is("in no TOWN", x.town(town, 1), town == 1 ? 2 : 0);
            CHECK.is("SHOWS nowhere", x.town(town, 3), 0);
            CHECK.is("not LOST again", x.town(town, 4), 0);
        }
        CHECK.is("not borne", x.count(6), 0);
        CHECK.is("no couple", x.count(8), 0);
        CHECK.is("no row with it", x.row(NONE), 1);
        CHECK.is("the row is the other one", x.row(0), 1);
        CHECK.is("meets none", x.meet(0, 1), NONE);
        CHECK.is("where() is nowhere", x.where(0, 40), NONE);
        CHECK.is("no mould", x.mould(0), NONE);
        x.days(20);
        CHECK.is("its EDGE stays", x.sheet(0, 1), 1);
        CHECK.is("nothing is known by it", x.count(7), 0);
        CHECK.is("it stays BURNT", x.count(5), 1);
    }

    /** "if LAYS gives more than 0 (without it always)" */
    private static void laysGives() {
        String[] rules = {"1", "2", "9999", MOST_INT, "0", "0-1", "0-9999", LEAST_INT, MOST_INT + "+1", "1-1", "0-0", "5/0", "1/2"};
        boolean[] lays = {true, true, true, true, false, false, false, false, false, false, false, false, false};
        for (int i = 0; i < rules.length; i++) {
            TwinInk x = CHECK.of("sheet 1 1 0;sheet 1 1 0;clerk 0;word 0 1;lays " + rules[i] + ";");
            x.days(1);
            CHECK.is("lays " + rules[i], x.clerk(0, 1), lays[i] ? 1 : 0);
        }
    }

    private static void withoutRules() {
        TwinInk x = CHECK.of("sheet 1 1 0;sheet 1 1 0;clerk 0;word 0 1;");
        CHECK.is("on the first DAY without LAYS", x.first(0, 0), 1);
        x.days(20);
        CHECK.is("no mould without MOULDS", x.sheet(0, 1), 1);
        CHECK.is("nor later", x.mould(0), NONE);
    }

    /** "TOWN by TOWN in which a CLERK is .. each CLERK there KNOWS all WORDS that SHOW there from then on" */
    private static void knowing() {
        String sheets = "sheet 1 1 0;sheet 1 1 0;sheet 2 2 3;sheet 2 2 3;";
        TwinInk x = CHECK.of(sheets + "clerk 0;clerk 0 1;clerk 3;clerk 1;clerk 3 1 0;clerk 2 0;word 0 1;word 1 0;word 2 3;word 0 2;");
        CHECK.is("nothing ahead of the first DAY", x.count(7), 0);
        x.days(1);
        int[] due = {3, 3, 4, 0, 4, 0};
        for (int clerk = 0; clerk < 6; clerk++) {
            CHECK.is("CLERK " + clerk + " on DAY 1", x.clerk(clerk, 1), due[clerk]);
        }
        x.days(1);
        CHECK.is("one who comes later", x.clerk(5, 1), 3);
        CHECK.is("one who isn't there yet", x.clerk(4, 1), 4);
        x.fire(0);
        x.fire(3);
        x.days(1);
        CHECK.is("one who comes too late", x.clerk(4, 1), 4);
        CHECK.is("from then on, BURNT or not", x.clerk(0, 1), 3);
        CHECK.is("all who KNOW it", x.word(0, 3), 0b100011);
        CHECK.is("none who KNOWS it", x.word(3, 3), 0);
        TwinInk nobody = CHECK.of(sheets + "word 0 1;clerk 1 2;");
        nobody.days(20);
        CHECK.is("no CLERK is there", nobody.count(7), 0);
        TwinInk noClerks = CHECK.of(sheets + "word 0 1;");
        CHECK.is("DAYS without CLERKS", noClerks.days(20), 20);
        CHECK.is("nobody KNOWS", noClerks.count(7), 0);
    }

    /** "if MOULDS gives more than 0 (without it never)" */
    private static void mouldGives() {
        gives("1", 1);
        gives("0", 0);
        gives("0-1", 0);
        gives("0-8", 0);
        gives(LEAST_INT, 0);
        gives(MOST_INT, 7);
        gives(MOST_INT + "+1", 0);
    }

    /** "the STEP of its RIGHT EDGE of that number less 1, MOD 8, is otherwise" */
    private static void mouldSteps() {
        for (int number = 1; number <= 33; number++) {
            gives("" + number, number);
            TwinInk x = CHECK.of("sheet 255 255 0;moulds " + number + ";");
            x.days(1);
            CHECK.is("otherwise is 0 where it was 1", x.sheet(0, 1), 255 ^ 1 << (number - 1) % 8);
            CHECK.is("LEFT stays", x.sheet(0, 0), 255);
            x.days(1);
            CHECK.is("and 1 again", x.sheet(0, 1), 255);
        }
        for (int number : new int[] {9992, 9993, 9999}) {
            gives("" + number, number);
        }
    }

    /** The step that a rule changes on the first day tells its value. */
    private static void gives(String rule, int due) {
        TwinInk x = CHECK.of("sheet 3 0 2;moulds " + rule + ";");
        x.days(1);
        CHECK.is("moulds " + rule, x.sheet(0, 1), due <= 0 ? 0 : 1 << (due - 1) % 8);
    }

    /** "ints that wrap, / cut down to 0, by 0 gives 0; tests, not, and, or are 1 or 0 (what isn't 0 holds)" */
    private static void numbers() {
        gives("(" + MOST_INT + ")+1=" + LEAST_INT, 1);
        gives(LEAST_INT + "-1=" + MOST_INT, 1);
        gives(LEAST_INT + "<0", 1);
        gives("0<" + MOST_INT, 1);
        gives("(" + MOST_INT + ")*2=0-2", 1);
        gives("1024*1024*1024*4=0", 1);
        gives("0-(" + LEAST_INT + ")=" + LEAST_INT, 1);
        gives("(" + LEAST_INT + ")/(0-1)=" + LEAST_INT, 1);
        gives("(" + LEAST_INT + ")/1=" + LEAST_INT, 1);
        gives("7/2=3", 1);
        gives("(0-7)/2=0-3", 1);
        gives("7/(0-2)=0-3", 1);
        gives("(0-7)/(0-2)=3", 1);
        gives("1/2=0", 1);
        gives("(0-1)/2=0", 1);
        gives("0/5=0", 1);
        gives("5/0=0", 1);
        gives("0/0=0", 1);
        gives("(0-5)/0=0", 1);
        gives("(" + LEAST_INT + ")/0=0", 1);
        gives("8/(4-4)*0+3", 3);
        for (String holds : new String[] {"1", "2", "(0-1)", "(" + LEAST_INT + ")", "(" + MOST_INT + ")"}) {
            gives("not " + holds, 0);
            gives("not not " + holds, 1);
            gives(holds + " and 1", 1);
            gives("1 and " + holds, 1);
            gives(holds + " or 0", 1);
            gives("0 or " + holds, 1);
            gives("(" + holds + " and " + holds + ")+(" + holds + " or " + holds + ")", 2);
        }
        gives("not 0", 1);
        gives("not not 0", 0);
        gives("0 and 1", 0);
        gives("1 and 0", 0);
        gives("0 or 0", 0);
        gives("(1<2)+(2=2)+(not 0)", 3);
        gives("(2<2)+(3<2)+(2=3)", 0);
        gives("(0-1)<0", 1);
        gives("0<(0-1)", 0);
        gives("9-3-2", 4);
        gives("16/4/2", 2);
        gives("16/4*2", 8);
        gives("2-3+8", 7);
    }

    /** 'town', 'sheets', 'clerks', 'known', 'day', the least and the most that each can be where a WORD SHOWS */
    private static void townValues() {
        for (int town = 0; town < 4; town++) {
            String text = "sheet 1 1 " + town + ";sheet 1 1 " + town + ";clerk " + town + ";word 0 1;lays town=";
            CHECK.is("town " + town, CHECK.of(text + town + ";").first(0, 0), 1);
            CHECK.is("not town " + town, CHECK.of("lays not 1;" + text.replace("lays town=", "")).first(0, 0), NONE);
            CHECK.is("another town", CHECK.of(text + (town + 1) % 4 + ";").first(0, 0), NONE);
        }
        for (int many = 2; many <= 9; many++) {
            String text = "sheet 1 1 0;".repeat(many) + "sheet 1 1 1;".repeat(9 - many) + "clerk 0;word 0 1;lays sheets=";
            CHECK.is("sheets " + many, CHECK.of(text + many + ";").first(0, 0), 1);
            CHECK.is("sheets more", CHECK.of(text + (many + 1) + ";").first(0, 0), NONE);
        }
        for (int many = 1; many <= 6; many++) {
            String text = "sheet 1 1 0;sheet 1 1 0;" + "clerk 0;".repeat(many) + "clerk 1;".repeat(6 - many) + "word 0 1;lays clerks=";
            CHECK.is("clerks " + many, CHECK.of(text + many + ";").first(0, 0), 1);
            CHECK.is("clerks less", CHECK.of(text + (many - 1) + ";").first(0, 0), NONE);
        }
        // Clerk 0 learns all in town 0, and bears two sheets to clerk 1, who lays them only beside so wise a one.
        StringBuilder words = new StringBuilder();
        for (int many = 1; many <= 12; many++) {
            words.append("word ").append((many - 1) % 4).append(' ').append(4 + (many - 1) / 4).append(';');
            String text = "sheet 1 1 0;".repeat(9) + "clerk 0 1;clerk 1;" + words + "lays day=0 or known=";
            TwinInk x = CHECK.of(text + many + ";");
            x.take(0, 0);
            x.take(0, 4);
            CHECK.is("known " + many, x.first(1, 0), 2);
            TwinInk more = CHECK.of(text + (many + 1) + ";");
            more.take(0, 0);
            more.take(0, 4);
            CHECK.is("known more than " + many, more.first(1, 0), NONE);
        }
        String day = "sheet 1 1 0;sheet 1 1 0;clerk 0;word 0 1;lays day=";
        CHECK.is("day 0", CHECK.of(day + "0;").first(0, 0), 1);
        TwinInk late = CHECK.of(day + "999;");
        for (int i = 0; i < 49; i++) {
            late.days(20);
        }
        late.days(19);
        CHECK.is("day 999", late.first(0, 0), 1);
    }

    /** 'left', 'right', 'sheet', 'town', 'borne', 'day', the least and the most that each can be */
    private static void sheetValues() {
        for (int edge : new int[] {0, 1, 254, 255}) {
            CHECK.is("left " + edge, CHECK.of("sheet " + edge + " 7 0;moulds left=" + edge + ";").mould(0), 1);
            CHECK.is("right " + edge, CHECK.of("sheet 7 " + edge + " 0;moulds right=" + edge + ";").mould(0), 1);
            CHECK.is("left, not right", CHECK.of("sheet 7 " + edge + " 0;moulds left=" + edge + ";").mould(0), NONE);
            CHECK.is("right, not left", CHECK.of("sheet " + edge + " 7 0;moulds right=" + edge + ";").mould(0), NONE);
        }
        String nine = "sheet 1 1 0;sheet 1 1 1;sheet 1 1 2;sheet 1 1 3;".repeat(2) + "sheet 1 1 0;";
        for (int sheet = 0; sheet < 9; sheet++) {
            TwinInk x = CHECK.of(nine + "moulds sheet=" + sheet + ";");
            TwinInk y = CHECK.of(nine + "moulds town=" + sheet + ";");
            for (int other = 0; other < 9; other++) {
                CHECK.is("sheet " + sheet, x.mould(other), other == sheet ? 1 : NONE);
                CHECK.is("town " + sheet, y.mould(other), other % 4 == sheet ? 1 : NONE);
            }
        }
        TwinInk x = CHECK.of("sheet 1 0 0;sheet 1 0 0;clerk 0 3;moulds borne*8+town;");
        x.take(0, 1);
        x.days(1);
        CHECK.is("not borne, in town 0", x.sheet(0, 1), 0);
        CHECK.is("borne, in town 0", x.sheet(1, 1), 128);
        x.days(1);
        CHECK.is("borne, in town 3", x.sheet(1, 1), 128 | 4);
        for (int value = 0; value <= 1; value++) {
            TwinInk y = CHECK.of("sheet 1 1 0;sheet 1 1 0;clerk 0;moulds borne=" + value + ";");
            y.take(0, 1);
            CHECK.is("borne=" + value + ", if nobody bears it", y.mould(0), value == 0 ? 1 : NONE);
            CHECK.is("borne=" + value + ", if a CLERK bears it", y.mould(1), value == 1 ? 1 : NONE);
            y.leave(0, 1);
            CHECK.is("borne=" + value + ", if it was left", y.mould(1), value == 0 ? 1 : NONE);
        }
        CHECK.is("day 39", CHECK.of("sheet 1 1 0;moulds day=39;").mould(0), 40);
    }

    // ---- acts

    /** "DAYS go by (1 to 20)" */
    private static void daysAtOnce() {
        int[] bad = {Integer.MIN_VALUE, -1, 0, 21, 22, 999, Integer.MAX_VALUE};
        for (int many = 1; many <= 20; many++) {
            CHECK.is("days(" + many + ")", CHECK.of("clerk 0;").days(many), many);
        }
        for (int many : bad) {
            CHECK.is("days(" + many + ")", CHECK.of("clerk 0;").days(many), NONE);
        }
        TwinInk one = CHECK.of("sheet 1 1 0;sheet 1 1 0;clerk 0 1 2;word 0 1;lays day=19;moulds day+1;");
        TwinInk all = CHECK.of("sheet 1 1 0;sheet 1 1 0;clerk 0 1 2;word 0 1;lays day=19;moulds day+1;");
        for (int i = 0; i < 20; i++) {
            one.days(1);
        }
        all.days(20);
        CHECK.is("20 at once are 20 one by one", State.of(all).replaceAll(" acts \\d+", ""), State.of(one).replaceAll(" acts \\d+", ""));
        CHECK.is("and one ACT", all.count(9), 1);
    }

    /** "NONE (STATUS 1): .. it would be above 999" */
    private static void lastDay() {
        for (int many = 1; many <= 20; many++) {
            TwinInk x = CHECK.of("clerk 0 1;");
            for (int i = 0; i < 48; i++) {
                x.days(20);
            }
            x.days(20);
            // From 980 on, so many DAYS are left ahead of 999 that just this many go by.
            if (many < 19) {
                x.days(19 - many);
            } else if (many == 20) {
                x.undo();
                x.days(19);
            }
            CHECK.is("days(" + (many + 1) + ") beyond 999", x.days(many + 1), NONE);
            CHECK.is("days(" + many + ") to 999", x.days(many), 999);
            CHECK.is("days(1) on DAY 999", x.days(1), NONE);
            CHECK.is("the DAY stays", x.count(4), 999);
            x.undo();
            CHECK.is("undone, and to 999 again", x.days(many), 999);
        }
    }

    /** "ACTS (at most 40 are kept, the latest ones)" */
    private static void fortyActs() {
        for (int many = 0; many <= 43; many++) {
            TwinInk x = CHECK.of("sheet 0 0 0;clerk 0;");
            for (int i = 0; i < many; i++) {
                x.days(0);
                CHECK.is("an ACT", x.days(1), i + 1);
            }
            int kept = Math.min(many, 40);
            CHECK.is(many + " ACTS", x.count(9), kept);
            for (int left = kept - 1; left >= 0; left--) {
                CHECK.is("undo() to " + left, x.undo(), left);
                CHECK.is("the DAY of it", x.count(4), many - kept + left);
            }
            CHECK.is("undo() of none", x.undo(), NONE);
            CHECK.is("what isn't kept stays", x.count(4), many - kept);
            CHECK.is("none is kept", x.count(9), 0);
        }
    }

    /** What is undone makes room for the next ones. */
    private static void fortyAgain() {
        TwinInk x = CHECK.of("sheet 0 0 0;clerk 0;");
        for (int i = 0; i < 47; i++) {
            x.days(1);
        }
        for (int i = 0; i < 10; i++) {
            x.undo();
        }
        CHECK.is("30 are left", x.count(9), 30);
        for (int step = 0; step < 8; step++) {
            x.forge(0, 0, step);
        }
        x.take(0, 0);
        x.leave(0, 0);
        CHECK.is("40 again", x.count(9), 40);
        x.fire(0);
        CHECK.is("40 still", x.count(9), 40);
        CHECK.is("undo the FIRE", x.undo(), 39);
        CHECK.is("not BURNT", x.count(5), 0);
        for (int i = 0; i < 10; i++) {
            x.undo();
        }
        CHECK.is("the EDGE as at first", x.sheet(0, 0), 0);
        CHECK.is("29 DAYS are left", x.count(9), 29);
        for (int day = 36; day >= 8; day--) {
            x.undo();
            CHECK.is("back to DAY " + day, x.count(4), day);
        }
        CHECK.is("the latest ones were kept", x.undo(), NONE);
    }

    /** "The last ACT is UNDONE: how many are left." */
    private static void undoEach() {
        String text = "sheet 1 1 0;sheet 1 1 0;sheet 1 1 0;clerk 0;clerk 0 1;word 0 1;word 1 2;moulds sheet;";
        for (int act = 0; act < 6; act++) {
            TwinInk x = CHECK.of(text);
            x.take(1, 2);
            TwinInk same = CHECK.of(text);
            same.take(1, 2);
            String due = State.of(same);
            switch (act) {
                case 0: x.days(20); break;
                case 1: x.take(0, 0); break;
                case 2: x.leave(1, 2); break;
                case 3: x.forge(0, 0, 7); break;
                case 4: x.forge(0, 1, 0); break;
                default: x.fire(0); break;
            }
            CHECK.is("ACT " + act + " is kept", x.count(9), 2);
            CHECK.is("ACT " + act + " changes something", State.of(x).equals(due), false);
            CHECK.is("undo() of ACT " + act, x.undo(), 1);
            CHECK.is("as ahead of ACT " + act, State.of(x), due);
        }
    }

    /** "TAKES a SHEET from the archive of the TOWN in which one is, or LEAVES one that one bears there" */
    private static void takeAndLeave() {
        TwinInk x = CHECK.of("sheet 1 1 2;".repeat(9) + "clerk 2 3;clerk 3;");
        for (int sheet = 0; sheet < 9; sheet++) {
            CHECK.is("one who is elsewhere", x.take(1, sheet), false);
            CHECK.is("take(0, " + sheet + ")", x.take(0, sheet), true);
            CHECK.is("twice", x.take(0, sheet), false);
            CHECK.is("bears", x.clerk(0, 2), (2 << sheet) - 1);
        }
        CHECK.is("the archive is empty", x.town(2, 0), 0);
        CHECK.is("all are there still", x.town(2, 1), 511);
        CHECK.is("all are borne", x.count(6), 511);
        x.days(1);
        CHECK.is("with what they bear", x.town(3, 1), 511);
        for (int sheet = 0; sheet < 9; sheet++) {
            CHECK.is("another one, in the same TOWN", x.leave(1, sheet), NONE);
            CHECK.is("another one can't take it from one", x.take(1, sheet), false);
            CHECK.is("leave(0, " + sheet + ")", x.leave(0, sheet), 3);
            CHECK.is("twice", x.leave(0, sheet), NONE);
            CHECK.is("from the archive", x.take(1, sheet), true);
        }
        CHECK.is("bears nothing", x.clerk(0, 2), 0);
        CHECK.is("bears all", x.clerk(1, 2), 511);
    }

    /** "A STEP (0 to 7) of an EDGE (side 0 LEFT, 1 RIGHT) is FORGED: the EDGE then." */
    private static void forging() {
        TwinInk x = CHECK.of("sheet 0 255 0;sheet 0 255 0;clerk 0;");
        for (int step = 0; step < 8; step++) {
            CHECK.is("LEFT, STEP " + step, x.forge(1, 0, step), (2 << step) - 1);
            CHECK.is("RIGHT, STEP " + step, x.forge(1, 1, step), 255 & -2 << step);
        }
        CHECK.is("LEFT", x.sheet(1, 0), 255);
        CHECK.is("RIGHT", x.sheet(1, 1), 0);
        CHECK.is("the other one's LEFT", x.sheet(0, 0), 0);
        CHECK.is("the other one's RIGHT", x.sheet(0, 1), 255);
        x.take(0, 1);
        CHECK.is("borne", x.forge(1, 0, 7), 127);
        CHECK.is("back", x.forge(1, 0, 7), 255);
    }

    /** "a FIRE burns an archive (the SHEETS in it, not those that are borne)" */
    private static void burning() {
        TwinInk x = CHECK.of("sheet 1 1 0;sheet 1 1 1;sheet 1 1 2;sheet 1 1 3;".repeat(2) + "sheet 1 1 3;clerk 3;clerk 0;");
        CHECK.is("TOWN 0", x.fire(0), 0b000010001);
        CHECK.is("TOWN 0 again", x.fire(0), NONE);
        x.take(0, 3);
        CHECK.is("TOWN 3, one of three borne", x.fire(3), 0b110000000);
        CHECK.is("TOWN 3 again", x.fire(3), NONE);
        x.leave(0, 3);
        CHECK.is("TOWN 3, when it was left", x.fire(3), 0b000001000);
        CHECK.is("TOWN 1", x.fire(1), 0b000100010);
        CHECK.is("TOWN 2", x.fire(2), 0b001000100);
        CHECK.is("all are BURNT", x.count(5), 511);
        for (int town = 0; town < 4; town++) {
            CHECK.is("nothing is left in " + town, x.fire(town), NONE);
        }
        CHECK.is("nine at once", CHECK.of("sheet 1 1 2;".repeat(9)).fire(2), 511);
    }

    // ---- the image

    /** Promises 43 and 44: "kept as an image, in place of another one"; "False: there is none." */
    private static void image() {
        TwinInk x = new TwinInk();
        CHECK.is("no image", x.restore(), false);
        x.image();
        CHECK.is("the image of a new object", x.restore(), true);
        Check.tell(x, "");
        CHECK.is("gone by an office", x.restore(), false);
        x.image();
        Check.tell(x, ";");
        CHECK.is("not gone by a FAULT", x.restore(), true);
        CHECK.is("nor by restore()", x.restore(), true);

        String text = "sheet 1 1 0;sheet 1 1 0;sheet 1 1 1;clerk 0 1;clerk 0;word 0 1;word 1 2;moulds day+1;";
        TwinInk y = imaged(text);
        y.leave(1, 1);
        y.fire(0);
        y.forge(2, 0, 1);
        y.days(20);
        y.forget();
        for (int i = 0; i < 8; i++) {
            y.hear(0, 0, 0, false);
        }
        String due = State.of(imaged(text));
        CHECK.is("it is another one", State.of(y).equals(due), false);
        CHECK.is("restore()", y.restore(), true);
        CHECK.is("all as the image", State.of(y), due);
        CHECK.is("its ACTS", State.undone(y), State.undone(imaged(text)));
        CHECK.is("once more", State.restored(y), due);
        y.undo();
        y.image();
        String other = State.of(y);
        y.days(3);
        CHECK.is("in place of another one", State.restored(y), other);
        imageOfForty();
        imageOfHeard();
    }

    /** "what is HEARD" is kept with its CLERK, WORD and DAYS, and whether one KNOWS it. */
    private static void imageOfHeard() {
        String text = "sheet 1 1 0;sheet 1 1 0;sheet 1 1 1;sheet 1 1 1;clerk 0;clerk 1;word 0 1;word 2 3;lays day=5;";
        for (int i = 0; i < 16; i++) {
            int clerk = i & 1;
            int word = i >> 1 & 1;
            int days = (i >> 2 & 1) == 1 ? 6 : 5;
            boolean knows = (i >> 3 & 1) == 1;
            TwinInk x = CHECK.of(text);
            x.hear(clerk, word, days, knows);
            boolean isSo = (clerk == word && days == 6) == knows;
            CHECK.is("so", x.borne(2), isSo ? 1 : 0);
            x.image();
            x.forget();
            x.restore();
            CHECK.is("HEARD again", x.count(10), 1);
            CHECK.is("so again", x.borne(2), isSo ? 1 : 0);
            x.forget();
            // What is heard in its place differs by one of its four parts from something that would be so.
            x.hear(isSo ? 1 - clerk : 0, isSo ? word : 0, isSo ? days : 6, isSo ? knows : true);
            CHECK.is("another in its place", x.count(10), 1);
            x.restore();
            CHECK.is("as the image", x.borne(2), isSo ? 1 : 0);
            for (int part = 0; part < 4; part++) {
                x.forget();
                x.hear(part == 0 ? 1 - clerk : clerk, part == 1 ? 1 - word : word, part == 2 ? 11 - days : days,
                    part == 3 ? !knows : knows);
                x.restore();
                CHECK.is("as the image, part " + part, x.borne(2), isSo ? 1 : 0);
            }
        }
        TwinInk full = CHECK.of(text);
        for (int i = 0; i < 8; i++) {
            full.hear(0, 0, i, i > 5);
        }
        full.image();
        full.forget();
        full.image();
        full.hear(0, 0, 0, true);
        full.restore();
        CHECK.is("an image of nothing HEARD", full.count(10), 0);
        CHECK.is("room for it", full.hear(0, 0, 12, true), 1);
    }

    private static TwinInk imaged(String text) {
        TwinInk x = CHECK.of(text);
        x.days(1);
        x.take(1, 1);
        x.forge(0, 1, 6);
        x.days(2);
        x.hear(0, 1, 5, true);
        x.hear(1, 0, 0, true);
        x.image();
        return x;
    }

    private static void imageOfForty() {
        TwinInk x = CHECK.of("sheet 0 0 0;clerk 0;");
        for (int i = 0; i < 41; i++) {
            x.days(1);
        }
        x.image();
        for (int i = 0; i < 40; i++) {
            x.undo();
        }
        CHECK.is("all are undone", x.count(4), 1);
        x.restore();
        CHECK.is("40 ACTS again", x.count(9), 40);
        x.days(1);
        CHECK.is("40 with one more", x.count(9), 40);
        for (int left = 39; left >= 0; left--) {
            CHECK.is("undo() to " + left, x.undo(), left);
        }
        CHECK.is("the oldest one gave way", x.count(4), 2);
        x.restore();
        for (int left = 39; left >= 0; left--) {
            CHECK.is("undo() by the image to " + left, x.undo(), left);
        }
        CHECK.is("not in the image", x.count(4), 1);
    }
}
