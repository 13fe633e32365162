import java.lang.reflect.InvocationTargetException;
import java.lang.reflect.Method;
import java.util.ArrayList;
import java.util.List;

/**
 * The full case: nine SHEETS, six CLERKS, twelve WORDS, 40 ACTS and 8 HEARD at once, and every question with the
 * arguments that are let in (of row, years and company some of them), held beside PlainModel.
 */
public final class FullTest {
    private static final Check CHECK = new Check();
    /** Some 190 calls bring an object to the last stage, and it is used for at most 512. */
    private static final int MOST_ASKED = 300;

    /** S, C, W, T: a SHEET, CLERK, WORD, TOWN; a..b: all from a to b; a,b,..: just these. */
    private static final String[] QUESTIONS = {
        "fault", "count 0..14", "sheet S 0..4", "clerk C 0..3", "word W 0..3", "town T 0..4", "then C 0..40 0..1", "where S 0..40",
        "first C W", "read 0..40 0..1", "mould S", "meet S S", "gathering 0..40", "row -1,0,1,4,8,9", "toForge S S", "toSave T", "toRead",
        "chain C W", "borne 0..2", "ask 0..1", "fires W 0..10", "game C C 0..1", "years 0,1,-1,2147483647,99 0..40 0..2",
        "wisest 0..40", "company C C 1,2,30,59,60", "together 1..6", "odd 0..3", "far S S", "unread 0..40", "heir C", "laid 1..40"};

    private static final String TWELVE = "word 0 1;word 1 2;word 2 3;word 3 4;word 4 5;word 5 6;word 6 7;word 7 8;"
        + "word 8 0;word 0 8;word 4 0;word 8 4;";
    private static final String[] TEXTS = {
        "sheet 1 1 0;".repeat(9) + "clerk 0;".repeat(6) + TWELVE,
        "sheet 0 1 0;sheet 1 3 1;sheet 3 7 2;sheet 7 15 3;sheet 15 31 0;sheet 31 63 1;sheet 63 127 2;sheet 127 255 3;sheet 255 0 0;"
            + "clerk 0 1 2 3 0 1;clerk 1 2 3 0 1 2;clerk 2 3 0 1 2 3;clerk 3 0 1 2 3 0;clerk 0 3 2 1 0 3;clerk 1 0 3 2 1 0;"
            + TWELVE + "slack 1;lays sheets+clerks-known/2-day;moulds (sheet+day)*borne-left/16;",
        "sheet 0 255 3;sheet 255 0 3;sheet 240 15 2;sheet 15 240 2;sheet 170 85 1;sheet 85 170 1;sheet 0 0 0;sheet 255 255 0;"
            + "sheet 51 204 3;clerk 3 2;clerk 2 1 0;clerk 1 1 3 2;clerk 0 1 2 3 3;clerk 0 0 0 0 0 1;clerk 3;" + TWELVE
            + "slack 8;lays not(day=3 or day=8)and clerks<5;moulds right*(day-sheet=2)+town;",
        "clerk 2;clerk 2 3;clerk 2 3 3;clerk 2 0 1 1;clerk 2 2 2 2 0;clerk 2 1 2 3 0 1;" + "sheet 85 170 2;sheet 170 85 2;".repeat(4)
            + "sheet 9 9 2;" + TWELVE + "slack 4;moulds day;"};

    public static void main(String[] args) throws Exception {
        for (String text : TEXTS) {
            for (int stage = 0; stage <= 3; stage++) {
                for (String question : QUESTIONS) {
                    askAll(text, stage, question.split(" "));
                }
            }
        }
        CHECK.end();
    }

    /** The two who answer, told and brought to the same stage. */
    private static final class Both {
        final TwinInk ink = new TwinInk();
        final PlainModel model = new PlainModel();

        Both(String text, int stage) throws Exception {
            tell(text);
            if (stage > 0) {
                actsAndHearsay();
            }
            if (stage > 1) {
                fires(stage);
            }
        }

        private void tell(String text) throws Exception {
            for (int at = 0; at < text.length(); at += 20) {
                int[] n = Check.numbersAt(text, at);
                same("feed", n[0], n[1], n[2], n[3], n[4]);
            }
            same("office", text.length());
            CHECK.is("WORDS of '" + text + "'", ink.count(2), 12);
        }

        private void actsAndHearsay() throws Exception {
            for (int i = 0; i < 60; i++) {
                same("take", i % 6, i * 5 % 9);
                if (i % 4 == 1) {
                    same("leave", i % 5, i * 7 % 9);
                }
                if (i % 6 == 2) {
                    same("days", 1 + i % 3);
                }
                if (i % 2 == 0) {
                    same("forge", i % 9, i / 9 % 2, i % 8);
                }
            }
            CHECK.is("ACTS", ink.count(9), 40);
            // What is so anyway, so that some bearers are left.
            for (int i = 0; i < 8; i++) {
                int days = i * 5 % 13;
                same("hear", i % 6, i * 7 % 12, days, (ink.then(i % 6, days, 1) >> i * 7 % 12 & 1) == 1);
            }
            CHECK.is("HEARD", ink.count(10), 8);
        }

        private void fires(int stage) throws Exception {
            for (int clerk = 0; clerk < 6; clerk++) {
                same("leave", clerk, clerk + stage);
            }
            for (int town = 0; town < (stage == 2 ? 2 : 4); town++) {
                same("fire", town);
            }
        }

        void same(String name, Object... args) throws Exception {
            CHECK.is(name, answer(ink, name, args), answer(model, name, args));
        }
    }

    private static void askAll(String text, int stage, String[] question) throws Exception {
        List<Object[]> all = new ArrayList<>();
        gather(question, 1, new ArrayList<>(), all);
        Both both = new Both(text, stage);
        int asked = 0;
        for (Object[] args : all) {
            if (asked == MOST_ASKED) {
                both = new Both(text, stage);
                asked = 0;
            }
            asked++;
            CHECK.is("stage " + stage + " of '" + text + "': " + question[0] + List.of(args),
                answer(both.ink, question[0], args), answer(both.model, question[0], args));
        }
    }

    private static void gather(String[] parts, int at, List<Object> some, List<Object[]> all) {
        if (at == parts.length) {
            all.add(some.toArray());
            return;
        }
        for (int n : numbers(parts[at])) {
            List<Object> more = new ArrayList<>(some);
            more.add(n);
            gather(parts, at + 1, more, all);
        }
    }

    private static List<Integer> numbers(String part) {
        String range = part.equals("S") ? "0..8" : part.equals("C") ? "0..5" : part.equals("W") ? "0..11" : part.equals("T") ? "0..3" : part;
        List<Integer> all = new ArrayList<>();
        if (range.contains("..")) {
            String[] ends = range.split("\\.\\.");
            for (int n = Integer.parseInt(ends[0]); n <= Integer.parseInt(ends[1]); n++) {
                all.add(n);
            }
        } else {
            for (String n : range.split(",")) {
                all.add(Integer.parseInt(n));
            }
        }
        return all;
    }

    private static String answer(Object on, String name, Object[] args) throws Exception {
        for (Method m : on.getClass().getDeclaredMethods()) {
            if (m.getName().equals(name) && m.getParameterCount() == args.length) {
                m.setAccessible(true);
                try {
                    return String.valueOf(m.invoke(on, args));
                } catch (InvocationTargetException e) {
                    return "throws." + e.getCause().getClass().getSimpleName();
                }
            }
        }
        throw new IllegalStateException(name);
    }
}
