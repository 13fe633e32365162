import java.lang.reflect.InvocationTargetException;
import java.lang.reflect.Method;
import java.util.ArrayList;
import java.util.List;

/**
 * "The public face": for each argument the last number that is let in and the first one that isn't, on both sides;
 * which exception comes ahead of which; and that neither a call that throws nor a question changes anything.
 */
public final class BoundsTest {
    private static final Check CHECK = new Check();
    private static final int NONE = TwinInk.NONE;

    /** S, C, W, T: a SHEET, CLERK, WORD, TOWN; a..b: no such one outside; !a..b: illegal outside; *: any number. */
    private static final String[] QUESTIONS = {
        "count 0..14", "sheet S 0..4", "clerk C 0..3", "word W 0..3", "town T 0..4", "then C !0..40 0..1",
        "where S !0..40", "first C W", "read !0..40 0..1", "mould S", "meet S S", "gathering !0..40", "toForge S S",
        "toSave T", "chain C W", "borne 0..2", "ask 0..1", "fires W !0..10", "years * !0..40 0..2", "wisest !0..40",
        "company C C !1..60", "together !1..6", "odd 0..3", "far S S", "unread !0..40", "heir C", "laid !1..40"};
    private static final String[] ACTS = {
        "take C S", "leave C S", "forge S 0..1 0..7", "fire T", "hear C W *"};

    private static final String[] STATES = {"new", "two", "full", "burnt"};

    public static void main(String[] args) throws Exception {
        for (String state : STATES) {
            for (String shape : QUESTIONS) {
                probe(state, shape, true);
            }
            for (String shape : ACTS) {
                probe(state, shape, false);
            }
            row(state);
            game(state);
            office(state);
            never(state);
        }
        CHECK.end();
    }

    // ---- states

    private static TwinInk make(String state) {
        if (state.equals("new")) {
            return new TwinInk();
        }
        TwinInk x = CHECK.of(state.equals("full") ? fullText()
            : "sheet 1 1 0;sheet 1 1 0;clerk 0 1;clerk 0;word 0 1;word 1 0;moulds sheet=day;");
        Check.tell(x, "sheet 0 x 0;");
        x.days(2);
        x.take(1, 0);
        x.hear(0, 1, 4, true);
        x.image();
        x.forge(0, 0, 3);
        x.hear(1, 0, 12, true);
        x.hear(1, 0, 13, true);
        x.days(1);
        if (state.equals("burnt")) {
            x.leave(1, 0);
            x.fire(0);
        }
        x.feed(1, 2, 3, 4, 5);
        return x;
    }

    private static String fullText() {
        StringBuilder b = new StringBuilder();
        for (int i = 0; i < 9; i++) {
            b.append("sheet ").append(255 >> i % 4).append(' ').append(255 >> (i + 1) % 4).append(' ').append(i % 4).append(';');
        }
        b.append("clerk 0 1 2 3 0 1;clerk 0 1 2 3 1;clerk 3 2 1 0;clerk 1 2 3;clerk 2 3;clerk 3;");
        for (int i = 0; i < 12; i++) {
            b.append("word ").append(i % 9).append(' ').append((i + 1 + i / 9) % 9).append(';');
        }
        return b + "slack 1;lays clerks+sheets-known;moulds sheet+day-9;";
    }

    /** Every state is made anew for each probe, so that no object is asked more than 512 times. */
    private static void isAsMade(String call, String state, List<Object[]> args, Method m) throws Exception {
        CHECK.is(call + " leaves what is there", State.of(called(state, args, m)), State.of(make(state)));
        CHECK.is(call + " leaves STATUS", State.status(called(state, args, m)), State.status(make(state)));
        CHECK.is(call + " leaves ACTS", State.undone(called(state, args, m)), State.undone(make(state)));
        CHECK.is(call + " leaves the image", State.restored(called(state, args, m)), State.restored(make(state)));
    }

    private static TwinInk called(String state, List<Object[]> args, Method m) throws Exception {
        TwinInk x = make(state);
        for (Object[] a : args) {
            answer(x, m, a);
        }
        return x;
    }

    // ---- probes

    private static void probe(String state, String shape, boolean isQuestion) throws Exception {
        String[] parts = shape.split(" ");
        Method m = methodOf(parts[0]);
        TwinInk x = make(state);
        List<Object[]> all = new ArrayList<>();
        gather(x, parts, 1, new ArrayList<>(), all);
        List<Object[]> thrown = new ArrayList<>();
        List<Object[]> answered = new ArrayList<>();
        for (Object[] args : all) {
            String due = due(x, parts, args);
            (due.isEmpty() ? answered : thrown).add(args);
        }
        TwinInk asked = make(state);
        for (Object[] args : thrown) {
            CHECK.is(state + ": " + call(parts[0], args), answer(asked, m, args), due(x, parts, args));
        }
        isAsMade(state + ": " + shape + ", what throws,", state, thrown, m);
        for (Object[] args : answered) {
            // An ACT changes what the next one meets, so each of them has an object of its own.
            String got = answer(isQuestion ? asked : make(state), m, args);
            CHECK.is(state + ": " + call(parts[0], args) + " throws nothing: " + got, got.startsWith("throws"), false);
        }
        if (isQuestion) {
            isAsMade(state + ": " + shape + ", what answers,", state, answered, m);
        }
    }

    private static Method methodOf(String name) {
        for (Method m : TwinInk.class.getMethods()) {
            if (m.getName().equals(name)) {
                return m;
            }
        }
        throw new IllegalStateException(name);
    }

    private static void gather(TwinInk x, String[] parts, int at, List<Integer> some, List<Object[]> all) {
        if (at == parts.length) {
            List<Object> args = new ArrayList<>(some);
            if (parts[0].equals("hear")) {
                args.add(all.size() % 2 == 0);
            }
            all.add(args.toArray());
            return;
        }
        int least = least(parts[at]);
        int most = most(x, parts[at]);
        int[] near = parts[at].equals("*") ? new int[] {Integer.MIN_VALUE, -1, 0, 12, 13, Integer.MAX_VALUE}
            : new int[] {Integer.MIN_VALUE, least - 1, least, Math.max(least, most), most + 1, Integer.MAX_VALUE};
        for (int n : near) {
            List<Integer> more = new ArrayList<>(some);
            more.add(n);
            gather(x, parts, at + 1, more, all);
        }
    }

    private static int least(String part) {
        return part.contains("..") ? Integer.parseInt(part.replace("!", "").split("\\.\\.")[0]) : 0;
    }

    private static int most(TwinInk x, String part) {
        switch (part) {
            case "S": return x.count(0) - 1;
            case "C": return x.count(1) - 1;
            case "W": return x.count(2) - 1;
            case "T": return 3;
            case "*": return 0;
            default: return Integer.parseInt(part.split("\\.\\.")[1]);
        }
    }

    /** What is not there comes ahead of what is illegal. */
    private static String due(TwinInk x, String[] parts, Object[] args) {
        String due = "";
        for (int i = 1; i < parts.length; i++) {
            int n = (Integer) args[i - 1];
            boolean isIn = parts[i].equals("*") || n >= least(parts[i]) && n <= most(x, parts[i]);
            if (!isIn && !parts[i].startsWith("!")) {
                return "throws.NoSuchElementException";
            }
            if (!isIn) {
                due = "throws.IllegalArgumentException";
            }
        }
        return due;
    }

    private static String call(String name, Object[] args) {
        StringBuilder b = new StringBuilder(name).append('(');
        for (int i = 0; i < args.length; i++) {
            b.append(i == 0 ? "" : ", ").append(args[i]);
        }
        return b.append(')').toString();
    }

    private static String answer(TwinInk x, Method m, Object[] args) throws Exception {
        try {
            return String.valueOf(m.invoke(x, args));
        } catch (InvocationTargetException e) {
            return "throws." + e.getCause().getClass().getSimpleName();
        }
    }

    // ---- calls whose bounds hang on more than one argument

    /** "how many (i NONE), the i-th SHEET. NoSuchElementException: there is none." */
    private static void row(String state) throws Exception {
        TwinInk x = make(state);
        int many = x.row(NONE);
        CHECK.is(state + ": a row", many > 0, x.count(0) > Integer.bitCount(x.count(5)));
        List<Object[]> thrown = new ArrayList<>();
        for (int i : new int[] {Integer.MIN_VALUE, -2, many, many + 1, 9, Integer.MAX_VALUE}) {
            CHECK.noSuch(state + ": row(" + i + ")", () -> x.row(i));
            thrown.add(new Object[] {i});
        }
        for (int i = 0; i < many; i++) {
            int sheet = x.row(i);
            CHECK.is(state + ": row(" + i + ") is a SHEET", sheet >= 0 && sheet < x.count(0), true);
            thrown.add(new Object[] {i});
        }
        isAsMade(state + ": row", state, thrown, methodOf("row"));
    }

    /** "NoSuchElementException: also another what. IllegalArgumentException (behind that): both are one." */
    private static void game(String state) throws Exception {
        TwinInk x = make(state);
        int clerks = x.count(1);
        List<Object[]> all = new ArrayList<>();
        int[] near = {Integer.MIN_VALUE, -1, 0, Math.max(0, clerks - 1), clerks, Integer.MAX_VALUE};
        for (int clerk : near) {
            for (int other : near) {
                for (int what : new int[] {-1, 0, 1, 2}) {
                    boolean isThere = clerk >= 0 && clerk < clerks && other >= 0 && other < clerks && what >= 0 && what < 2;
                    String due = !isThere ? "NoSuch" : clerk == other ? "Illegal" : "";
                    Object[] args = {clerk, other, what};
                    all.add(args);
                    String got = answer(x, methodOf("game"), args);
                    CHECK.is(state + ": " + call("game", args) + ": " + got,
                        due.isEmpty() ? !got.startsWith("throws") : got.startsWith("throws." + due), true);
                }
            }
        }
        isAsMade(state + ": game", state, all, methodOf("game"));
    }

    /** "IllegalArgumentException: the tape has not so many, n below 0 (nothing changes)." */
    private static void office(String state) throws Exception {
        TwinInk x = make(state);
        int tape = x.count(11);
        List<Object[]> all = new ArrayList<>();
        for (int n : new int[] {Integer.MIN_VALUE, -1, tape + 1, tape + 20, 701, Integer.MAX_VALUE}) {
            CHECK.illegal(state + ": office(" + n + ")", () -> x.office(n));
            all.add(new Object[] {n});
        }
        isAsMade(state + ": office", state, all, methodOf("office"));
        CHECK.is(state + ": office of the whole tape", make(state).office(tape), tape == 0 ? 0 : 1);
        CHECK.is(state + ": office of nothing", make(state).office(0), 0);
    }

    /** What names no exception throws none, whatever it is given. */
    private static void never(String state) throws Exception {
        for (int n : new int[] {Integer.MIN_VALUE, -1, 0, 1, 20, 21, Integer.MAX_VALUE}) {
            int got = make(state).days(n);
            CHECK.is(state + ": days(" + n + ")", got == NONE, n < 1 || n > 20);
            int tape = make(state).count(11);
            CHECK.is(state + ": feed", make(state).feed(n, n, n, n, n), tape + 20);
            make(state).years(n, 40, 0);
        }
        List<Object[]> none = List.of(new Object[0], new Object[0]);
        for (String name : new String[] {"fault", "toRead"}) {
            isAsMade(state + ": " + name, state, none, methodOf(name));
        }
        make(state).undo();
        make(state).forget();
        make(state).image();
        make(state).restore();
    }
}
