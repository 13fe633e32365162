/** Promises 1 to 4: a new object, the tape, texts with all their faults. */
public final class TextTest {
    private static final Check CHECK = new Check();

    public static void main(String[] args) {
        newObject();
        tape();
        offices();
        lines();
        limits();
        words();
        expressions();
        nesting();
        CHECK.end();
    }

    private static void newObject() {
        TwinInk x = new TwinInk();
        for (int what = 0; what <= 14; what++) {
            CHECK.is("count(" + what + ") of a new object", x.count(what), 0);
        }
        CHECK.is("fault() of a new object", x.fault(), TwinInk.NONE);
        CHECK.is("undo() of a new object", x.undo(), TwinInk.NONE);
        CHECK.is("restore() of a new object", x.restore(), false);
        CHECK.noSuch("sheet(0, 0) of a new object", () -> x.sheet(0, 0));
        CHECK.noSuch("clerk(0, 0) of a new object", () -> x.clerk(0, 0));
        CHECK.noSuch("word(0, 0) of a new object", () -> x.word(0, 0));
    }

    private static void tape() {
        TwinInk x = new TwinInk();
        for (int i = 1; i <= 35; i++) {
            CHECK.is("feed " + i, x.feed(0x20202020, 0x20202020, 0x0a0a0a0a, 0x20202020, 0x20202020), 20 * i);
        }
        CHECK.is("feed beyond 700", x.feed(0, 0, 0, 0, 0), TwinInk.NONE);
        CHECK.is("bytes of the tape", x.count(11), 700);
        CHECK.illegal("office(701)", () -> x.office(701));
        CHECK.illegal("office(-1)", () -> x.office(-1));
        CHECK.is("the tape stays", x.count(11), 700);
        CHECK.is("office of blanks alone", x.office(700), 0);
        CHECK.is("the tape is empty then", x.count(11), 0);
        CHECK.illegal("office(1) of an empty tape", () -> x.office(1));
        CHECK.is("office(0)", x.office(0), 0);
        // "shee" "t 1 " "2 3;" and bytes that are no token, the highest byte of each number first.
        x.feed(0x73686565, 0x74203120, 0x3220333b, 0xff80c3a9, 0);
        CHECK.is("office(12) leaves out the bytes behind", x.office(12), 0);
        CHECK.is("the bytes behind are gone too", x.count(11), 0);
        CHECK.is("left", x.sheet(0, 0), 1);
        CHECK.is("right", x.sheet(0, 1), 2);
        CHECK.is("town", x.sheet(0, 2), 3);
    }

    private static void offices() {
        TwinInk x = CHECK.of("sheet 1 1 0;sheet 1 1 0;clerk 0 1;word 0 1;slack 2;");
        x.days(1);
        x.hear(0, 0, 1, true);
        x.image();
        x.days(2);
        CHECK.is("a fault", Check.tell(x, "slack 2;sheet;"), 1);
        CHECK.is("its place", x.fault(), 13);
        CHECK.is("STATUS 0", x.count(12), 1);
        CHECK.illegal("office(5) of an empty tape", () -> x.office(5));
        CHECK.is("the place stays", x.fault(), 13);
        CHECK.is("what is no text counts for nothing", x.count(12), 1);
        CHECK.is("DAY stays", x.count(4), 3);
        CHECK.is("SLACK stays", x.count(3), 2);
        CHECK.is("SHEETS stay", x.count(0), 2);
        CHECK.is("what is known stays", x.count(7), 1);
        CHECK.is("ACTS stay", x.count(9), 2);
        CHECK.is("HEARD stays", x.count(10), 1);
        CHECK.is("the image stays", x.restore(), true);
        CHECK.is("the image's DAY", x.count(4), 1);
        x.days(99);
        x.hear(0, 0, 99, true);
        int refused = x.count(13);
        CHECK.is("another office", Check.tell(x, "sheet 3 4 1;clerk 1;"), 0);
        CHECK.is("fault() without", x.fault(), TwinInk.NONE);
        CHECK.is("DAY anew", x.count(4), 0);
        CHECK.is("SHEETS anew", x.count(0), 1);
        CHECK.is("WORDS anew", x.count(2), 0);
        CHECK.is("SLACK anew", x.count(3), 0);
        CHECK.is("nothing is known", x.clerk(0, 1), 0);
        CHECK.is("ACTS are gone", x.count(9), 0);
        CHECK.is("undo() too", x.undo(), TwinInk.NONE);
        CHECK.is("HEARD is gone", x.count(10), 0);
        CHECK.is("the image is gone", x.restore(), false);
        CHECK.is("STATUS 0 stays", x.count(12), 1);
        CHECK.is("STATUS 1 stays", x.count(13), refused);
        CHECK.is("STATUS 2 stays", x.count(14), 1);
    }

    private static void lines() {
        CHECK.of("");
        CHECK.of(" \n \n");
        CHECK.of("sheet0 0 0;sheet\n255\n255\n3;word1 0;");
        CHECK.of("clerk 0 1 2 3 0 1;");
        CHECK.of("slack 8;lays 1;moulds 0;");
        CHECK.of("slack 0008;");
        CHECK.fault("sheet 0 0 0", 1, 11);
        CHECK.fault("sheet 0 0 0   ", 1, 14);
        CHECK.fault("sheet", 1, 5);
        CHECK.fault("sheet 0 0 0 0;", 1, 12);
        CHECK.fault("sheet 0 a 0;", 1, 8);
        CHECK.fault("sheet 0,0 0;", 1, 7);
        CHECK.fault(";", 1, 0);
        CHECK.fault("slack 1;;", 1, 8);
        CHECK.fault("5;", 1, 0);
        CHECK.fault("12345;", 1, 0);
        CHECK.fault("sheets 0 0 0;", 1, 0);
        CHECK.fault("she et 0 0 0;", 1, 0);
        CHECK.fault("Sheet 0 0 0;", 1, 0);
        CHECK.fault("sheetz 0 0 0;", 1, 0);
        CHECK.fault("sheeta 0 0 0;", 1, 0);
        CHECK.fault("sheet`0 0 0;", 1, 5);
        CHECK.fault("sheet{0 0 0;", 1, 5);
        for (String like : new String[] {"xheet", "xlerk", "xord", "xlack", "xays", "xoulds", "wore", "slac", "moulder"}) {
            CHECK.fault(like + " 0 0 0;", 1, 0);
        }
        CHECK.fault("slack;", 1, 5);
        CHECK.fault("slack 1 1;", 1, 8);
        CHECK.fault("slack\t1;", 1, 5);
        CHECK.fault("slack 1\r;", 1, 7);
        CHECK.fault("slack 1" + (char) 233 + ";", 1, 7);
        CHECK.fault("slack 1" + (char) 0 + ";", 1, 7);
        CHECK.fault("slack -1;", 1, 6);
        CHECK.fault("clerk 0 1 2 3 0 1 not;", 1, 18);
        CHECK.fault("word;", 1, 4);
        CHECK.fault("sheet 0 0 0;word 0;", 1, 18);
        CHECK.fault("lays 1", 1, 6);
        CHECK.fault("lays", 1, 4);
        CHECK.fault("slack 1;slack 2;", 5, 8);
        CHECK.fault("lays 1;slack 1;lays;", 5, 15);
        CHECK.fault("moulds 1;moulds 1;", 5, 9);
        CHECK.fault("slack 1;lays 1;moulds 1;slack", 5, 24);
    }

    private static void limits() {
        String nine = "sheet 0 0 0;".repeat(9);
        CHECK.of(nine);
        CHECK.fault(nine + "sheet 0 0 0;", 2, 108);
        CHECK.fault(nine + " sheet", 2, 109);
        String six = "clerk 0;".repeat(6);
        CHECK.of(six);
        CHECK.fault(six + "clerk;", 2, 48);
        StringBuilder twelve = new StringBuilder(nine);
        for (int i = 0; i < 12; i++) {
            twelve.append("word ").append(i % 8).append(' ').append(i < 8 ? i + 1 : i - 8 == 7 ? 0 : 8 - (i - 8)).append(';');
        }
        CHECK.of(twelve.toString());
        CHECK.fault(twelve + "word 9 9;", 2, twelve.length());
        CHECK.fault("sheet 256 0 0;", 2, 6);
        CHECK.fault("sheet 0 256 0;", 2, 8);
        CHECK.fault("sheet 0 0 4;", 2, 10);
        CHECK.fault("sheet 00000 0 0;", 2, 6);
        CHECK.fault("sheet 0 0 99999999999999;", 2, 10);
        CHECK.fault("clerk 4;", 2, 6);
        CHECK.fault("clerk 0 4;", 2, 8);
        CHECK.fault("clerk 0 0 0 0 0 0 0;", 2, 18);
        CHECK.fault("clerk 0 0 0 0 0 0 99999;", 2, 18);
        CHECK.fault("slack 9;", 2, 6);
        CHECK.fault("slack 10000;", 2, 6);
        CHECK.fault("lays 10000;", 2, 5);
        CHECK.of("lays 9999;moulds 0000;");
    }

    private static void words() {
        String two = "sheet 0 0 0;sheet 0 0 0;";
        CHECK.of(two + "word 0 1;word 1 0;");
        CHECK.fault("word 0 0;", 3, 5);
        CHECK.fault(two + "word 2 0;", 3, 29);
        CHECK.fault(two + "word 0 2;", 3, 31);
        CHECK.fault(two + "word 0 9999;", 3, 31);
        CHECK.fault(two + "word 0 10000;", 2, 31);
        CHECK.fault(two + "word 10000 0;", 2, 29);
        CHECK.fault(two + "word 0 0;", 4, 31);
        CHECK.fault(two + "word 1 1;", 4, 31);
        CHECK.fault(two + "word 0 1;word 0 1;", 4, 40);
        CHECK.fault("sheet 0 0 0;word 0 1;sheet 0 0 0;", 3, 19);
    }

    private static void expressions() {
        CHECK.of("lays town+sheets*clerks/known-day;moulds left+right*sheet/town-borne-day;");
        CHECK.of("lays not not not not not not 1 and not 2 or not(3);");
        CHECK.of("lays(1<2)=(2<3);");
        CHECK.of("lays 1<2 and 2=3 or 4;");
        for (String value : new String[] {"left", "right", "sheet", "borne", "or", "and", "lays", "x", "towns", "da", "days"}) {
            CHECK.fault("lays " + value + ";", 3, 5);
            CHECK.fault("lays 1+" + value + ";", 3, 7);
        }
        for (String value : new String[] {"sheets", "clerks", "known", "or", "moulds", "lefts"}) {
            CHECK.fault("moulds " + value + ";", 3, 7);
        }
        CHECK.fault("lays 1+not 1;", 3, 7);
        CHECK.fault("lays 1<not 1;", 3, 7);
        CHECK.fault("lays not or;", 3, 9);
        CHECK.fault("lays;", 1, 4);
        CHECK.fault("lays );", 1, 5);
        CHECK.fault("lays +1;", 1, 5);
        CHECK.fault("lays 1 2;", 1, 7);
        CHECK.fault("lays 1 town;", 1, 7);
        CHECK.fault("lays 1 not 1;", 1, 7);
        CHECK.fault("lays 1<2<3;", 1, 8);
        CHECK.fault("lays 1=2<3;", 1, 8);
        CHECK.fault("lays 1++2;", 1, 7);
        CHECK.fault("lays (1;", 1, 7);
        CHECK.fault("lays (1", 1, 7);
        CHECK.fault("lays 1);", 1, 6);
        CHECK.fault("lays ();", 1, 6);
        CHECK.fault("lays 1 or;", 1, 9);
        CHECK.fault("lays 1>2;", 1, 6);
        CHECK.fault("lays 1+12345;", 2, 7);
        CHECK.fault("lays 1 12345;", 1, 7);
    }

    private static void nesting() {
        CHECK.of("lays (((((1)))));");
        CHECK.of("lays (((((1)))))+(((((not 1)))));");
        CHECK.fault("lays ((((((1))))));", 2, 11);
        CHECK.fault("lays ((((((12345))))));", 2, 11);
        CHECK.fault("lays ((((((town))))));", 2, 11);
        CHECK.fault("lays ((((((or))))));", 2, 11);
        CHECK.fault("lays ((((((not 1))))));", 2, 11);
        CHECK.fault("lays ((((((((1))))))));", 2, 11);
        CHECK.fault("lays ((((((;", 1, 11);
        CHECK.fault("lays (((((()))))));", 1, 11);
        CHECK.fault("lays ((((((+1))))));", 1, 11);
        CHECK.fault("lays ((((((#))))));", 1, 11);
        CHECK.fault("lays ((((((", 1, 11);
        CHECK.fault("moulds 1*((((((left))))));", 2, 15);
        CHECK.fault("lays not not not not not not not 1;", 2, 29);
        CHECK.fault("lays 1 or not not not not not not not", 2, 34);
        CHECK.of("lays not not not(not not not not 1);");
        CHECK.of("lays not not not not not not 1 or not not not not not not 1;");
    }
}
