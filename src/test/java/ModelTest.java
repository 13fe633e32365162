import java.lang.reflect.InvocationTargetException;
import java.lang.reflect.Method;
import java.util.ArrayList;
import java.util.List;
import java.util.Random;

/** Runs of calls by seeds, each answered by TwinInk and by PlainModel: the two must agree on every one. */
public final class ModelTest {
    private static final int MOST_CALLS = 512;
    /** 35 calls of feed(), an office() ahead of them, office() and fault() behind them. */
    private static final int MOST_TO_TELL = 38;
    private static final int RUNS = Integer.getInteger("runs", 250);
    private static final int FIRST_SEED = Integer.getInteger("seed", 1);

    private static final List<Method> CALLS = new ArrayList<>();
    private static final List<Method> ANSWERS = new ArrayList<>();

    public static void main(String[] args) throws Exception {
        for (Method m : TwinInk.class.getMethods()) {
            if (m.getDeclaringClass() == TwinInk.class) {
                CALLS.add(m);
            }
        }
        CALLS.sort((a, b) -> a.getName().compareTo(b.getName()));
        for (Method m : CALLS) {
            ANSWERS.add(PlainModel.class.getMethod(m.getName(), m.getParameterTypes()));
            ANSWERS.get(ANSWERS.size() - 1).setAccessible(true);
        }
        int wrong = 0;
        for (int seed = FIRST_SEED; seed < FIRST_SEED + RUNS && wrong == 0; seed++) {
            wrong += new ModelTest(seed).run();
        }
        System.exit(wrong == 0 ? 0 : 1);
    }

    private final Random random;
    private final int seed;
    private final TwinInk ink = new TwinInk();
    private final PlainModel model = new PlainModel();
    private final List<String> log = new ArrayList<>();
    private int made = 0;
    private int sheets = 0;
    private int clerks = 0;
    private int words = 0;

    private ModelTest(int seed) {
        this.seed = seed;
        this.random = new Random(seed * 7919L);
    }

    private int run() throws Exception {
        // Every fifth run goes as far as an object may be used.
        int calls = seed % 5 == 0 ? MOST_CALLS : 40 + random.nextInt(MOST_CALLS - 39);
        if (random.nextInt(10) > 0 && !tell()) {
            return 1;
        }
        while (made < calls) {
            boolean agree = random.nextInt(100) == 0 && made + MOST_TO_TELL <= calls ? tell() : call();
            if (!agree) {
                return 1;
            }
        }
        return 0;
    }

    private boolean call() throws Exception {
        String[] often = {"days", "take", "leave", "forge", "fire", "undo", "hear"};
        String name = CALLS.get(random.nextInt(CALLS.size())).getName();
        if (random.nextInt(3) == 0) {
            name = often[random.nextInt(often.length)];
        }
        if (name.equals("forget") && random.nextInt(3) > 0 || name.equals("office")) {
            name = "take";
        }
        if (name.equals("fire") && random.nextInt(6) > 0) {
            name = "take";
        }
        if (name.equals("first") && random.nextInt(2) > 0) {
            name = "ask";
        }
        return same(name, arguments(name));
    }

    private Object[] arguments(String name) {
        int wide = random.nextInt(12) == 0 ? 2 : 0;
        int c = near(clerks, wide);
        int s = near(sheets, wide);
        switch (name) {
            case "feed":
                return new Object[] {random.nextInt(), random.nextInt(), random.nextInt(), random.nextInt(), 0};
            case "count": return new Object[] {near(15, wide)};
            case "sheet": return new Object[] {s, near(5, wide)};
            case "clerk": return new Object[] {c, near(4, wide)};
            case "word": return new Object[] {near(words, wide), near(4, wide)};
            case "town": return new Object[] {near(4, wide), near(5, wide)};
            case "days": return new Object[] {1 + near(random.nextBoolean() ? 3 : 20, wide)};
            case "take": case "leave": return new Object[] {c, s};
            case "forge": return new Object[] {s, near(2, wide), near(8, wide)};
            case "fire": case "toSave": return new Object[] {near(4, wide)};
            case "then": return new Object[] {c, near(41, wide), near(2, wide)};
            case "where": return new Object[] {s, near(41, wide)};
            case "first": case "chain": return new Object[] {c, near(words, wide)};
            case "read": return new Object[] {near(41, wide), near(2, wide)};
            case "mould": return new Object[] {s};
            case "meet": case "toForge": case "far": return new Object[] {s, near(sheets, wide)};
            case "gathering": case "wisest": case "unread": return new Object[] {near(41, wide)};
            case "row": return new Object[] {near(6, wide) - 1};
            case "hear":
                return hearsay(c, near(words, wide), near(13, wide));
            case "borne": return new Object[] {near(3, wide)};
            case "ask": return new Object[] {near(2, wide)};
            case "fires": return new Object[] {near(words, wide), near(11, wide)};
            case "game": return new Object[] {c, near(clerks, wide), near(2, wide)};
            case "years": return new Object[] {random.nextInt(), near(41, wide), near(3, wide)};
            case "company": return new Object[] {c, near(clerks, wide), 1 + near(60, wide)};
            case "together": return new Object[] {1 + near(6, wide)};
            case "odd": return new Object[] {near(4, wide)};
            case "heir": return new Object[] {c};
            case "laid": return new Object[] {1 + near(40, wide)};
            default: return new Object[0];
        }
    }

    /** Mostly what is so anyway: else there would soon be no bearer by whom all of it is so. */
    private Object[] hearsay(int clerk, int word, int days) {
        boolean knows = random.nextInt(3) == 0;
        boolean can = clerk >= 0 && clerk < clerks && word >= 0 && word < words && days >= 0 && days < 13;
        if (can && random.nextInt(4) > 0) {
            knows = (model.then(clerk, days, 1) >> word & 1) == 1;
        }
        return new Object[] {clerk, word, days, knows};
    }

    private int near(int many, int wide) {
        if (wide > 0 && random.nextInt(8) == 0) {
            return random.nextBoolean() ? Integer.MAX_VALUE : Integer.MIN_VALUE;
        }
        return random.nextInt(Math.max(1, many + 2 * wide)) - wide;
    }

    // ---- texts

    private boolean tell() throws Exception {
        String text = randomText();
        if (made > 0 && random.nextInt(2) == 0) {
            text = spoiltText(text);
        }
        if (text.length() > 700) {
            text = text.substring(0, 700);
        }
        // Whatever a random feed left upon the tape goes first, as a text with a fault.
        boolean agree = model.count(11) == 0 || same("office", model.count(11));
        for (int at = 0; at < text.length() && agree; at += 20) {
            int[] n = Check.numbersAt(text, at);
            agree = same("feed", n[0], n[1], n[2], n[3], n[4]);
        }
        log.add("text " + text);
        agree = agree && same("office", text.length()) && same("fault");
        // The model is asked for these, so that TwinInk is called no more often than its 512 times.
        sheets = model.count(0);
        clerks = model.count(1);
        words = model.count(2);
        return agree;
    }

    private String randomText() {
        List<String> lines = new ArrayList<>();
        words = 0;
        // In most texts much comes together; the others are anything that the grammar allows.
        boolean rich = random.nextInt(4) > 0;
        int mask = random.nextInt(3) == 0 ? 255 : random.nextBoolean() ? 7 : 3;
        int towns = 1 + random.nextInt(4);
        int nSheets = rich ? 3 + random.nextInt(7) : random.nextInt(10);
        for (int i = 0; i < nSheets; i++) {
            lines.add("sheet " + (random.nextInt(256) & mask) + " " + (random.nextInt(256) & mask) + " "
                + random.nextInt(towns) + ";");
        }
        int nClerks = rich ? 2 + random.nextInt(5) : random.nextInt(7);
        for (int i = 0; i < nClerks; i++) {
            StringBuilder round = new StringBuilder("clerk");
            int n = 1 + random.nextInt(6);
            for (int j = 0; j < n; j++) {
                round.append(' ').append(random.nextInt(towns));
            }
            lines.add(round.append(";").toString());
        }
        int nWords = rich ? 8 + random.nextInt(12) : random.nextInt(13);
        for (int i = 0; i < nWords && nSheets > 1; i++) {
            int a = random.nextInt(nSheets);
            int b = random.nextInt(nSheets);
            String line = "word " + a + " " + b + ";";
            if (a != b && !lines.contains(line) && words < 12) {
                lines.add(line);
                words++;
            }
        }
        if (random.nextInt(3) > 0) {
            lines.add("slack " + random.nextInt(random.nextBoolean() ? 3 : 9) + ";");
        }
        if (random.nextInt(rich ? 4 : 2) == 0) {
            lines.add("lays " + expression(true, 3) + ";");
        }
        if (random.nextInt(rich ? 4 : 2) == 0) {
            lines.add("moulds " + expression(false, 3) + ";");
        }
        return String.join(random.nextBoolean() ? "" : "\n ", lines);
    }

    private String expression(boolean ofTown, int deep) {
        String[] values = ofTown ? new String[] {"town", "sheets", "clerks", "known", "day"}
            : new String[] {"left", "right", "sheet", "town", "borne", "day"};
        int kind = deep == 0 ? random.nextInt(2) : random.nextInt(9);
        switch (kind) {
            case 0: return "" + random.nextInt(random.nextBoolean() ? 5 : 10000);
            case 1: return values[random.nextInt(values.length)];
            case 2: return "(" + expression(ofTown, deep - 1) + ")";
            case 3: return "not " + expression(ofTown, deep - 1);
            default:
                String[] joins = {" or ", " and ", "<", "=", "+", "-", "*", "/", " / "};
                // Parentheses keep most of these within the grammar, where a test or a not is joined.
                String a = expression(ofTown, deep - 1);
                String b = expression(ofTown, deep - 1);
                String join = joins[random.nextInt(joins.length)];
                return random.nextInt(3) > 0 && deep > 1 ? "(" + a + ")" + join + "(" + b + ")" : a + join + b;
        }
    }

    private String spoiltText(String text) {
        String[] pieces = {";", "(", ")", "+", "-", "not ", "not not not not ", " or ", "0", "9", "10000", " 4", "12345",
            "sheet ", "clerk 0 1;", "word 0 1;", "slack 3;", "lays 1;", "moulds day;", "#", "A", "\t", "sheets",
            "sheet 1 2 3;sheet 1 2 3;sheet 1 2 3;sheet 1 2 3;sheet 1 2 3;", "left", "known", "((((", "lays ((((((1))))));",
            "word 0 1;word 0 1;", "slack 1;slack 1;", "lays day;lays 1;", "moulds 0;moulds 1;", "word 0 0;", "word 1 1;",
            "clerk 0;clerk 1;clerk 2;clerk 3;", "word 1 0;word 2 1;word 1 2;", "\u00e9", "\r", ""};
        StringBuilder b = new StringBuilder(text);
        int times = 1 + random.nextInt(2);
        for (int i = 0; i < times; i++) {
            int at = random.nextInt(b.length() + 1);
            int to = Math.min(b.length(), at + (random.nextBoolean() ? 0 : random.nextInt(4)));
            b.replace(at, to, pieces[random.nextInt(pieces.length)]);
        }
        if (random.nextInt(5) == 0) {
            b.setLength(random.nextInt(b.length() + 1));
        }
        return b.toString();
    }

    // ---- the two answers

    private boolean same(String name, Object... args) throws Exception {
        int i = 0;
        while (!CALLS.get(i).getName().equals(name)) {
            i++;
        }
        made++;
        String got = answer(CALLS.get(i), ink, args);
        String due = answer(ANSWERS.get(i), model, args);
        StringBuilder call = new StringBuilder(name).append('(');
        for (Object a : args) {
            call.append(call.charAt(call.length() - 1) == '(' ? "" : ", ").append(a);
        }
        log.add(call + ") -> " + got);
        if (got.equals(due)) {
            return true;
        }
        for (String line : log) {
            System.out.println(line);
        }
        System.out.println("seed " + seed + ": the last one is due to be " + due);
        return false;
    }

    private static String answer(Method m, Object on, Object[] args) throws Exception {
        try {
            return String.valueOf(m.invoke(on, args));
        } catch (InvocationTargetException e) {
            return "throws." + e.getCause().getClass().getSimpleName();
        }
    }
}
