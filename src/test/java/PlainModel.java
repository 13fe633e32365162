import java.util.ArrayDeque;
import java.util.ArrayList;
import java.util.Collections;
import java.util.Deque;
import java.util.HashMap;
import java.util.HashSet;
import java.util.List;
import java.util.Map;
import java.util.NoSuchElementException;
import java.util.Set;
import java.util.TreeSet;
import java.util.function.ToIntFunction;
import java.util.regex.Matcher;
import java.util.regex.Pattern;

/**
 * The document once more, in the slowest and plainest way: trees, sets and tries of every order.
 * ModelTest holds TwinInk against it, so it shares no way of reckoning with it.
 */
final class PlainModel {
    private static final int NONE = -1;

    private static final class Fault extends RuntimeException {
        private static final long serialVersionUID = 1L;
        final int code;
        final int at;

        Fault(int code, int at) {
            this.code = code;
            this.at = at;
        }
    }

    /** What the text told. */
    private static final class Spec {
        final List<int[]> sheets = new ArrayList<>();
        final List<List<Integer>> clerks = new ArrayList<>();
        final List<int[]> words = new ArrayList<>();
        Integer slack = null;
        ToIntFunction<Map<String, Integer>> lays = null;
        ToIntFunction<Map<String, Integer>> moulds = null;

        int slackOrNone() {
            return slack == null ? 0 : slack;
        }
    }

    private static final class Sheet {
        int left;
        int right;
        Integer archive;
        Integer bearer;

        Sheet copy() {
            Sheet s = new Sheet();
            s.left = left;
            s.right = right;
            s.archive = archive;
            s.bearer = bearer;
            return s;
        }

        boolean burnt() {
            return archive == null && bearer == null;
        }
    }

    private static final class State {
        int day = 0;
        final List<Sheet> sheets = new ArrayList<>();
        final List<Set<Integer>> known = new ArrayList<>();

        State copy() {
            State s = new State();
            s.day = day;
            for (Sheet x : sheets) {
                s.sheets.add(x.copy());
            }
            for (Set<Integer> k : known) {
                s.known.add(new TreeSet<>(k));
            }
            return s;
        }
    }

    private record Heard(int clerk, int word, int days, boolean knows) {
    }

    private record Token(int at, String text, char kind) {
    }

    private final StringBuilder tape = new StringBuilder();
    private int faultAt = NONE;
    private Spec spec = new Spec();
    private State now = new State();
    private Deque<State> acts = new ArrayDeque<>();
    private List<Heard> heard = new ArrayList<>();
    private State imageState = null;
    private Deque<State> imageActs = null;
    private List<Heard> imageHeard = null;
    private final int[] status = new int[3];

    // ---------------------------------------------------------------- text

    public int feed(int a, int b, int c, int d, int e) {
        if (tape.length() > 680) {
            return NONE;
        }
        for (int n : new int[] {a, b, c, d, e}) {
            tape.append((char) (n >>> 24)).append((char) (n >>> 16 & 255));
            tape.append((char) (n >>> 8 & 255)).append((char) (n & 255));
        }
        return tape.length();
    }

    public int office(int n) {
        if (n < 0 || n > tape.length()) {
            throw new IllegalArgumentException();
        }
        String text = tape.substring(0, n);
        tape.setLength(0);
        Spec read;
        try {
            read = new Text(text).office();
        } catch (Fault f) {
            faultAt = f.at;
            status[0]++;
            return f.code;
        }
        faultAt = NONE;
        spec = read;
        now = new State();
        for (int[] s : spec.sheets) {
            Sheet sheet = new Sheet();
            sheet.left = s[0];
            sheet.right = s[1];
            sheet.archive = s[2];
            now.sheets.add(sheet);
        }
        for (int i = 0; i < spec.clerks.size(); i++) {
            now.known.add(new TreeSet<>());
        }
        acts = new ArrayDeque<>();
        heard = new ArrayList<>();
        imageState = null;
        return 0;
    }

    public int fault() {
        return faultAt;
    }

    private static final class Text {
        private static final Pattern TOKEN = Pattern.compile("[a-z]+|[0-9]+|[;()+\\-*/<=]|[^ \n]", Pattern.DOTALL);
        private static final Set<String> OF_TOWN = Set.of("town", "sheets", "clerks", "known", "day");
        private static final Set<String> OF_SHEET = Set.of("left", "right", "sheet", "town", "borne", "day");
        private final List<Token> tokens = new ArrayList<>();
        private int i = 0;
        private final Spec spec = new Spec();
        private Set<String> values;

        Text(String text) {
            Matcher m = TOKEN.matcher(text);
            while (m.find()) {
                char c = m.group().charAt(0);
                char kind = c >= 'a' && c <= 'z' ? 'w' : c >= '0' && c <= '9' ? 'n'
                    : ";()+-*/<=".indexOf(c) >= 0 ? 's' : '?';
                tokens.add(new Token(m.start(), m.group(), kind));
            }
            tokens.add(new Token(text.length(), "", 'e'));
        }

        private Token peek() {
            return tokens.get(i);
        }

        private boolean at(String text) {
            return peek().kind != '?' && peek().text.equals(text);
        }

        private Fault fault(int code) {
            return new Fault(code, peek().at);
        }

        Spec office() {
            while (peek().kind != 'e') {
                line();
                if (!at(";")) {
                    throw fault(1);
                }
                i++;
            }
            return spec;
        }

        private void line() {
            switch (peek().text) {
                case "sheet" -> {
                    limit(spec.sheets.size(), 9);
                    int l = number(255);
                    int r = number(255);
                    spec.sheets.add(new int[] {l, r, number(3)});
                }
                case "clerk" -> {
                    limit(spec.clerks.size(), 6);
                    List<Integer> round = new ArrayList<>();
                    round.add(number(3));
                    while (peek().kind == 'n') {
                        if (round.size() == 6) {
                            throw fault(2);
                        }
                        round.add(number(3));
                    }
                    spec.clerks.add(round);
                }
                case "word" -> {
                    limit(spec.words.size(), 12);
                    int l = sheetNumber();
                    int there = i;
                    int r = sheetNumber();
                    boolean again = l == r;
                    for (int[] w : spec.words) {
                        again |= w[0] == l && w[1] == r;
                    }
                    if (again) {
                        i = there;
                        throw fault(4);
                    }
                    spec.words.add(new int[] {l, r});
                }
                case "slack" -> {
                    once(spec.slack);
                    spec.slack = number(8);
                }
                case "lays" -> {
                    once(spec.lays);
                    values = OF_TOWN;
                    spec.lays = expr(0);
                }
                case "moulds" -> {
                    once(spec.moulds);
                    values = OF_SHEET;
                    spec.moulds = expr(0);
                }
                default -> throw fault(1);
            }
        }

        private void limit(int many, int most) {
            if (many == most) {
                throw fault(2);
            }
            i++;
        }

        private void once(Object told) {
            if (told != null) {
                throw fault(5);
            }
            i++;
        }

        private int number(int most) {
            if (peek().kind != 'n') {
                throw fault(1);
            }
            if (peek().text.length() > 4 || Integer.parseInt(peek().text) > most) {
                throw fault(2);
            }
            return Integer.parseInt(tokens.get(i++).text);
        }

        private int sheetNumber() {
            int there = i;
            int n = number(9999);
            if (n >= spec.sheets.size()) {
                i = there;
                throw fault(3);
            }
            return n;
        }

        private static int truth(boolean b) {
            return b ? 1 : 0;
        }

        private ToIntFunction<Map<String, Integer>> expr(int within) {
            if (within == 6) {
                throw fault(peek().kind == 'n' || peek().kind == 'w' || at("(") ? 2 : 1);
            }
            ToIntFunction<Map<String, Integer>> a = and(within);
            while (at("or")) {
                i++;
                ToIntFunction<Map<String, Integer>> x = a;
                ToIntFunction<Map<String, Integer>> y = and(within);
                a = v -> truth(x.applyAsInt(v) != 0 | y.applyAsInt(v) != 0);
            }
            return a;
        }

        private ToIntFunction<Map<String, Integer>> and(int within) {
            ToIntFunction<Map<String, Integer>> a = not(within, 1);
            while (at("and")) {
                i++;
                ToIntFunction<Map<String, Integer>> x = a;
                ToIntFunction<Map<String, Integer>> y = not(within, 1);
                a = v -> truth(x.applyAsInt(v) != 0 & y.applyAsInt(v) != 0);
            }
            return a;
        }

        private ToIntFunction<Map<String, Integer>> not(int within, int which) {
            if (at("not")) {
                if (which == 7) {
                    throw fault(2);
                }
                i++;
                ToIntFunction<Map<String, Integer>> x = not(within, which + 1);
                return v -> truth(x.applyAsInt(v) == 0);
            }
            ToIntFunction<Map<String, Integer>> x = sum(within);
            if (at("<")) {
                i++;
                ToIntFunction<Map<String, Integer>> y = sum(within);
                return v -> truth(x.applyAsInt(v) < y.applyAsInt(v));
            }
            if (at("=")) {
                i++;
                ToIntFunction<Map<String, Integer>> y = sum(within);
                return v -> truth(x.applyAsInt(v) == y.applyAsInt(v));
            }
            return x;
        }

        private ToIntFunction<Map<String, Integer>> sum(int within) {
            ToIntFunction<Map<String, Integer>> a = product(within);
            while (at("+") || at("-")) {
                int sign = tokens.get(i++).text.equals("+") ? 1 : -1;
                ToIntFunction<Map<String, Integer>> x = a;
                ToIntFunction<Map<String, Integer>> y = product(within);
                a = v -> x.applyAsInt(v) + sign * y.applyAsInt(v);
            }
            return a;
        }

        private ToIntFunction<Map<String, Integer>> product(int within) {
            ToIntFunction<Map<String, Integer>> a = part(within);
            while (at("*") || at("/")) {
                boolean times = tokens.get(i++).text.equals("*");
                ToIntFunction<Map<String, Integer>> x = a;
                ToIntFunction<Map<String, Integer>> y = part(within);
                a = v -> {
                    int p = x.applyAsInt(v);
                    int q = y.applyAsInt(v);
                    return times ? p * q : q == 0 ? 0 : p / q;
                };
            }
            return a;
        }

        private ToIntFunction<Map<String, Integer>> part(int within) {
            if (peek().kind == 'n') {
                int n = number(9999);
                return v -> n;
            }
            if (peek().kind == 'w') {
                String name = peek().text;
                if (!values.contains(name)) {
                    throw fault(3);
                }
                i++;
                return v -> v.get(name);
            }
            if (!at("(")) {
                throw fault(1);
            }
            i++;
            ToIntFunction<Map<String, Integer>> x = expr(within + 1);
            if (!at(")")) {
                throw fault(1);
            }
            i++;
            return x;
        }
    }

    // ---------------------------------------------------------------- helpers

    private static int bits(Iterable<Integer> set) {
        int b = 0;
        for (int i : set) {
            b |= 1 << i;
        }
        return b;
    }

    private void sheetIn(int s) {
        if (s < 0 || s >= spec.sheets.size()) {
            throw new NoSuchElementException();
        }
    }

    private void clerkIn(int c) {
        if (c < 0 || c >= spec.clerks.size()) {
            throw new NoSuchElementException();
        }
    }

    private void wordIn(int w) {
        if (w < 0 || w >= spec.words.size()) {
            throw new NoSuchElementException();
        }
    }

    private static void what(int what, int most) {
        if (what < 0 || what > most) {
            throw new NoSuchElementException();
        }
    }

    private static void range(int n, int least, int most) {
        if (n < least || n > most) {
            throw new IllegalArgumentException();
        }
    }

    private int clerkTown(State st, int c) {
        List<Integer> round = spec.clerks.get(c);
        return round.get(st.day % round.size());
    }

    private int sheetTown(State st, int s) {
        Sheet x = st.sheets.get(s);
        return x.burnt() ? NONE : x.bearer != null ? clerkTown(st, x.bearer) : x.archive;
    }

    private boolean fits(State st, int a, int b) {
        Sheet x = st.sheets.get(a);
        Sheet y = st.sheets.get(b);
        if (a == b || x.burnt() || y.burnt()) {
            return false;
        }
        int unlike = 0;
        for (int i = 0; i < 8; i++) {
            if ((x.right >> i) % 2 != (y.left >> i) % 2) {
                unlike++;
            }
        }
        return unlike <= spec.slackOrNone();
    }

    private Set<Integer> shows(State st, int town) {
        Set<Integer> set = new TreeSet<>();
        for (int w = 0; w < spec.words.size(); w++) {
            int a = spec.words.get(w)[0];
            int b = spec.words.get(w)[1];
            if (sheetTown(st, a) == town && sheetTown(st, b) == town && fits(st, a, b)) {
                set.add(w);
            }
        }
        return set;
    }

    private Set<Integer> sheetsThere(State st, int town) {
        Set<Integer> set = new TreeSet<>();
        for (int s = 0; s < st.sheets.size(); s++) {
            if (sheetTown(st, s) == town) {
                set.add(s);
            }
        }
        return set;
    }

    private Set<Integer> clerksThere(State st, int town) {
        Set<Integer> set = new TreeSet<>();
        for (int c = 0; c < spec.clerks.size(); c++) {
            if (clerkTown(st, c) == town) {
                set.add(c);
            }
        }
        return set;
    }

    private static Set<Integer> allKnown(State st) {
        Set<Integer> set = new TreeSet<>();
        for (Set<Integer> k : st.known) {
            set.addAll(k);
        }
        return set;
    }

    private static Set<Integer> archive(State st, int town) {
        Set<Integer> set = new TreeSet<>();
        for (int s = 0; s < st.sheets.size(); s++) {
            if (st.sheets.get(s).archive != null && st.sheets.get(s).archive == town) {
                set.add(s);
            }
        }
        return set;
    }

    private State oneDay(State before) {
        State after = before.copy();
        for (int town = 0; town < 4; town++) {
            Set<Integer> there = clerksThere(before, town);
            if (there.isEmpty()) {
                continue;
            }
            Set<Integer> together = new HashSet<>();
            for (int c : there) {
                together.addAll(before.known.get(c));
            }
            Map<String, Integer> v = new HashMap<>();
            v.put("town", town);
            v.put("sheets", sheetsThere(before, town).size());
            v.put("clerks", there.size());
            v.put("known", together.size());
            v.put("day", before.day);
            if (spec.lays == null || spec.lays.applyAsInt(v) > 0) {
                for (int c : there) {
                    after.known.get(c).addAll(shows(before, town));
                }
            }
        }
        for (int s = 0; s < before.sheets.size(); s++) {
            Sheet x = before.sheets.get(s);
            if (x.burnt() || spec.moulds == null) {
                continue;
            }
            Map<String, Integer> v = new HashMap<>();
            v.put("left", x.left);
            v.put("right", x.right);
            v.put("sheet", s);
            v.put("town", sheetTown(before, s));
            v.put("borne", x.bearer == null ? 0 : 1);
            v.put("day", before.day);
            int m = spec.moulds.applyAsInt(v);
            if (m > 0) {
                after.sheets.get(s).right ^= 1 << Math.floorMod(m - 1, 8);
            }
        }
        after.day++;
        return after;
    }

    private State after(State st, int days) {
        State s = st;
        for (int i = 0; i < days; i++) {
            s = oneDay(s);
        }
        return s;
    }

    private void act() {
        acts.addLast(now.copy());
        if (acts.size() > 40) {
            acts.removeFirst();
        }
    }

    private int refuse(int which) {
        status[which]++;
        return NONE;
    }

    // ---------------------------------------------------------------- now

    public int count(int what) {
        what(what, 14);
        Set<Integer> burnt = new TreeSet<>();
        Set<Integer> borne = new TreeSet<>();
        for (int s = 0; s < now.sheets.size(); s++) {
            if (now.sheets.get(s).burnt()) {
                burnt.add(s);
            }
            if (now.sheets.get(s).bearer != null) {
                borne.add(s);
            }
        }
        return switch (what) {
            case 0 -> spec.sheets.size();
            case 1 -> spec.clerks.size();
            case 2 -> spec.words.size();
            case 3 -> spec.slackOrNone();
            case 4 -> now.day;
            case 5 -> bits(burnt);
            case 6 -> bits(borne);
            case 7 -> bits(allKnown(now));
            case 8 -> couples(new ArrayList<>(), 0);
            case 9 -> acts.size();
            case 10 -> heard.size();
            case 11 -> tape.length();
            default -> status[what - 12];
        };
    }

    private int couples(List<Integer> used, int from) {
        if (from >= now.sheets.size()) {
            return 0;
        }
        int best = couples(used, from + 1);
        if (used.contains(from)) {
            return best;
        }
        for (int o = from + 1; o < now.sheets.size(); o++) {
            if (!used.contains(o) && (fits(now, from, o) || fits(now, o, from))) {
                List<Integer> more = new ArrayList<>(used);
                more.add(o);
                best = Math.max(best, 1 + couples(more, from + 1));
            }
        }
        return best;
    }

    public int sheet(int sheet, int what) {
        sheetIn(sheet);
        what(what, 4);
        Sheet x = now.sheets.get(sheet);
        switch (what) {
            case 0:
                return x.left;
            case 1:
                return x.right;
            case 2:
                return sheetTown(now, sheet);
            case 3:
                return x.bearer == null ? NONE : x.bearer;
            default:
                Set<Integer> set = new TreeSet<>();
                for (int o = 0; o < now.sheets.size(); o++) {
                    if (fits(now, sheet, o)) {
                        set.add(o);
                    }
                }
                return bits(set);
        }
    }

    private Set<Integer> bearing(State st, int clerk) {
        Set<Integer> set = new TreeSet<>();
        for (int s = 0; s < st.sheets.size(); s++) {
            if (st.sheets.get(s).bearer != null && st.sheets.get(s).bearer == clerk) {
                set.add(s);
            }
        }
        return set;
    }

    public int clerk(int clerk, int what) {
        clerkIn(clerk);
        what(what, 3);
        return switch (what) {
            case 0 -> clerkTown(now, clerk);
            case 1 -> bits(now.known.get(clerk));
            case 2 -> bits(bearing(now, clerk));
            default -> spec.clerks.get(clerk).size();
        };
    }

    public int word(int word, int what) {
        wordIn(word);
        what(what, 3);
        if (what < 2) {
            return spec.words.get(word)[what];
        }
        if (what == 2) {
            for (int t = 0; t < 4; t++) {
                if (shows(now, t).contains(word)) {
                    return t;
                }
            }
            return NONE;
        }
        int b = 0;
        for (int c = 0; c < now.known.size(); c++) {
            b += now.known.get(c).contains(word) ? 1 << c : 0;
        }
        return b;
    }

    private Set<Integer> lost(State st, Set<Integer> burning) {
        Set<Integer> set = new TreeSet<>();
        for (int w = 0; w < spec.words.size(); w++) {
            int a = spec.words.get(w)[0];
            int b = spec.words.get(w)[1];
            boolean gone = st.sheets.get(a).burnt() || st.sheets.get(b).burnt();
            if (!gone && (burning.contains(a) || burning.contains(b))) {
                set.add(w);
            }
        }
        return set;
    }

    public int town(int town, int what) {
        what(town, 3);
        what(what, 4);
        return switch (what) {
            case 0 -> bits(archive(now, town));
            case 1 -> bits(sheetsThere(now, town));
            case 2 -> bits(clerksThere(now, town));
            case 3 -> bits(shows(now, town));
            default -> bits(lost(now, archive(now, town)));
        };
    }

    // ---------------------------------------------------------------- acts

    public int days(int many) {
        if (many < 1 || many > 20 || now.day + many > 999) {
            return refuse(1);
        }
        act();
        now = after(now, many);
        return now.day;
    }

    public boolean take(int clerk, int sheet) {
        clerkIn(clerk);
        sheetIn(sheet);
        if (!archive(now, clerkTown(now, clerk)).contains(sheet)) {
            refuse(1);
            return false;
        }
        act();
        now.sheets.get(sheet).archive = null;
        now.sheets.get(sheet).bearer = clerk;
        return true;
    }

    public int leave(int clerk, int sheet) {
        clerkIn(clerk);
        sheetIn(sheet);
        if (!bearing(now, clerk).contains(sheet)) {
            return refuse(1);
        }
        act();
        now.sheets.get(sheet).bearer = null;
        now.sheets.get(sheet).archive = clerkTown(now, clerk);
        return clerkTown(now, clerk);
    }

    public int forge(int sheet, int side, int step) {
        sheetIn(sheet);
        what(side, 1);
        what(step, 7);
        Sheet x = now.sheets.get(sheet);
        if (x.burnt()) {
            return refuse(1);
        }
        act();
        if (side == 0) {
            x.left ^= 1 << step;
            return x.left;
        }
        x.right ^= 1 << step;
        return x.right;
    }

    public int fire(int town) {
        what(town, 3);
        Set<Integer> set = archive(now, town);
        if (set.isEmpty()) {
            return refuse(1);
        }
        act();
        for (int s : set) {
            now.sheets.get(s).archive = null;
        }
        return bits(set);
    }

    public int undo() {
        if (acts.isEmpty()) {
            return NONE;
        }
        now = acts.removeLast();
        return acts.size();
    }

    // ---------------------------------------------------------------- ahead

    public int then(int clerk, int days, int what) {
        clerkIn(clerk);
        what(what, 1);
        range(days, 0, 40);
        State st = after(now, days);
        return what == 0 ? clerkTown(st, clerk) : bits(st.known.get(clerk));
    }

    public int where(int sheet, int days) {
        sheetIn(sheet);
        range(days, 0, 40);
        return sheetTown(after(now, days), sheet);
    }

    public int first(int clerk, int word) {
        clerkIn(clerk);
        wordIn(word);
        for (int d = 0; d <= 40; d++) {
            if (after(now, d).known.get(clerk).contains(word)) {
                return d;
            }
        }
        return NONE;
    }

    public int read(int days, int what) {
        what(what, 1);
        range(days, 0, 40);
        State st = after(now, days);
        if (what == 0) {
            return bits(allKnown(st));
        }
        Set<Integer> set = new TreeSet<>();
        for (int w : allKnown(st)) {
            int many = 0;
            for (Set<Integer> k : st.known) {
                many += k.contains(w) ? 1 : 0;
            }
            if (many == 1) {
                set.add(w);
            }
        }
        return bits(set);
    }

    public int mould(int sheet) {
        sheetIn(sheet);
        for (int d = 1; d <= 40; d++) {
            if (after(now, d).sheets.get(sheet).right != now.sheets.get(sheet).right) {
                return d;
            }
        }
        return NONE;
    }

    public int meet(int sheet, int other) {
        sheetIn(sheet);
        sheetIn(other);
        for (int d = 0; d <= 40 && sheet != other; d++) {
            State st = after(now, d);
            if (sheetTown(st, sheet) == sheetTown(st, other) && sheetTown(st, other) != NONE) {
                return d;
            }
        }
        return NONE;
    }

    public int gathering(int days) {
        range(days, 0, 40);
        State st = after(now, days);
        int best = 0;
        for (int t = 3; t >= 0; t--) {
            if (sheetsThere(st, t).size() >= sheetsThere(st, best).size()) {
                best = t;
            }
        }
        for (int t = 0; t < 4; t++) {
            if (sheetsThere(st, t).size() == sheetsThere(st, best).size()) {
                return t;
            }
        }
        return best;
    }

    private List<Integer> longest(List<Integer> row) {
        List<Integer> best = row;
        // A row of all SHEETS can't be outdone by those that would be tried behind it.
        for (int s = 0; s < now.sheets.size() && best.size() < now.sheets.size(); s++) {
            boolean can = row.isEmpty() ? !now.sheets.get(s).burnt()
                : fits(now, row.get(row.size() - 1), s) && !row.contains(s);
            if (can) {
                List<Integer> longer = new ArrayList<>(row);
                longer.add(s);
                List<Integer> found = longest(longer);
                if (found.size() > best.size()) {
                    best = found;
                }
            }
        }
        return best;
    }

    public int row(int i) {
        List<Integer> row = longest(new ArrayList<>());
        if (i == NONE) {
            return row.size();
        }
        what(i, row.size() - 1);
        return row.get(i);
    }

    public int toForge(int left, int right) {
        sheetIn(left);
        sheetIn(right);
        if (left == right || now.sheets.get(left).burnt() || now.sheets.get(right).burnt()) {
            return NONE;
        }
        int many = far(left, right);
        int forged = 0;
        while (many > spec.slackOrNone()) {
            many--;
            forged++;
        }
        return forged;
    }

    public int toSave(int town) {
        what(town, 3);
        int without = lost(now, archive(now, town)).size();
        int best = NONE;
        int fewest = without;
        for (int s : archive(now, town)) {
            Set<Integer> rest = new TreeSet<>(archive(now, town));
            rest.remove(s);
            if (lost(now, rest).size() < fewest) {
                fewest = lost(now, rest).size();
                best = s;
            }
        }
        return best;
    }

    /** Tries every set of sheets. */
    public int toRead() {
        int best = (1 << now.sheets.size()) - 1;
        for (int set = 0; set < 1 << now.sheets.size(); set++) {
            boolean all = true;
            for (int[] w : spec.words) {
                if (fits(now, w[0], w[1])) {
                    all &= (set >> w[0] & 1) == 1 && (set >> w[1] & 1) == 1;
                }
            }
            if (all && Integer.bitCount(set) < Integer.bitCount(best)) {
                best = set;
            }
        }
        return best;
    }

    public int chain(int clerk, int word) {
        clerkIn(clerk);
        wordIn(word);
        State st = now;
        for (int d = 0; d <= 40; d++) {
            if (st.known.get(clerk).contains(word)) {
                return d;
            }
            State told = st.copy();
            for (int c = 0; c < spec.clerks.size(); c++) {
                for (int o = 0; o < spec.clerks.size(); o++) {
                    if (clerkTown(st, c) == clerkTown(st, o)) {
                        told.known.get(c).addAll(st.known.get(o));
                    }
                }
            }
            st = oneDay(told);
        }
        return NONE;
    }

    // ---------------------------------------------------------------- heard

    public int hear(int clerk, int word, int days, boolean knows) {
        clerkIn(clerk);
        wordIn(word);
        if (heard.size() == 8 || days < 0 || days > 12) {
            return refuse(2);
        }
        heard.add(new Heard(clerk, word, days, knows));
        return heard.size();
    }

    public void forget() {
        heard.clear();
    }

    private boolean so(State st) {
        for (Heard h : heard) {
            if (after(st, h.days).known.get(h.clerk).contains(h.word) != h.knows) {
                return false;
            }
        }
        return true;
    }

    private State bearFromNow(int clerk, int sheet) {
        State st = now.copy();
        st.sheets.get(sheet).archive = null;
        st.sheets.get(sheet).bearer = clerk;
        return st;
    }

    private List<int[]> bearers() {
        List<int[]> list = new ArrayList<>();
        for (int c = 0; c < spec.clerks.size(); c++) {
            for (int s = 0; s < spec.sheets.size(); s++) {
                if (!now.sheets.get(s).burnt() && !bearing(now, c).contains(s) && so(bearFromNow(c, s))) {
                    list.add(new int[] {c, s});
                }
            }
        }
        return list;
    }

    public int borne(int what) {
        what(what, 2);
        if (what == 2) {
            return so(now) ? 1 : 0;
        }
        List<int[]> list = bearers();
        return what == 0 ? list.size() : list.isEmpty() ? NONE : 10 * list.get(0)[0] + list.get(0)[1];
    }

    public int ask(int what) {
        what(what, 1);
        List<int[]> list = bearers();
        if (list.isEmpty()) {
            return what == 0 ? NONE : 0;
        }
        List<Integer> many = new ArrayList<>();
        for (int c = 0; c < spec.clerks.size(); c++) {
            Set<Set<Integer>> unlike = new HashSet<>();
            for (int[] p : list) {
                unlike.add(after(bearFromNow(p[0], p[1]), 6).known.get(c));
            }
            many.add(unlike.size());
        }
        int most = Collections.max(many);
        return what == 0 ? many.indexOf(most) : most;
    }

    // ---------------------------------------------------------------- chances

    /** Adds up all sixteen ways in which the four towns burn or don't. */
    public int fires(int word, int tenths) {
        wordIn(word);
        range(tenths, 0, 10);
        Sheet a = now.sheets.get(spec.words.get(word)[0]);
        Sheet b = now.sheets.get(spec.words.get(word)[1]);
        if (a.burnt() || b.burnt()) {
            return NONE;
        }
        int sum = 0;
        for (int set = 0; set < 16; set++) {
            int chance = 1;
            for (int t = 0; t < 4; t++) {
                chance *= (set >> t & 1) == 1 ? tenths : 10 - tenths;
            }
            boolean gone = a.archive != null && (set >> a.archive & 1) == 1
                || b.archive != null && (set >> b.archive & 1) == 1;
            sum += gone ? chance : 0;
        }
        return sum;
    }

    private Set<Integer> news(int clerk, int other, boolean shown) {
        Set<Integer> seen = bearing(now, clerk);
        if (shown) {
            seen.addAll(bearing(now, other));
        }
        Set<Integer> set = new TreeSet<>();
        for (int w = 0; w < spec.words.size(); w++) {
            int a = spec.words.get(w)[0];
            int b = spec.words.get(w)[1];
            if (seen.contains(a) && seen.contains(b) && fits(now, a, b) && !now.known.get(clerk).contains(w)) {
                set.add(w);
            }
        }
        return set;
    }

    public int game(int clerk, int other, int what) {
        clerkIn(clerk);
        clerkIn(other);
        what(what, 1);
        if (clerk == other) {
            throw new IllegalArgumentException();
        }
        int[][] one = new int[2][2];
        int[][] two = new int[2][2];
        for (int i = 0; i < 2; i++) {
            for (int j = 0; j < 2; j++) {
                int x = news(clerk, other, j == 1).size();
                int y = news(other, clerk, i == 1).size();
                one[i][j] = 3 * x - 2 * y;
                two[i][j] = 3 * y - 2 * x;
            }
        }
        List<Integer> rests = new ArrayList<>();
        for (int i = 0; i < 2; i++) {
            for (int j = 0; j < 2; j++) {
                if (one[1 - i][j] <= one[i][j] && two[i][1 - j] <= two[i][j]) {
                    rests.add(10 * i + j);
                }
            }
        }
        return what == 0 ? rests.size() : rests.isEmpty() ? NONE : rests.get(0);
    }

    public int years(int seed, int n, int what) {
        what(what, 2);
        range(n, 0, 40);
        int[] s = {seed};
        State st = now.copy();
        for (int d = 0; d < n; d++) {
            int kind = draw(s, 6);
            if (kind == 0) {
                for (int x : archive(st, draw(s, 4))) {
                    st.sheets.get(x).archive = null;
                }
            }
            if (kind == 1 && spec.clerks.size() > 0) {
                int c = draw(s, spec.clerks.size());
                Set<Integer> there = archive(st, clerkTown(st, c));
                if (!there.isEmpty()) {
                    Sheet x = st.sheets.get(Collections.min(there));
                    x.archive = null;
                    x.bearer = c;
                }
            }
            if (kind == 2 && spec.sheets.size() > 0) {
                Sheet x = st.sheets.get(draw(s, spec.sheets.size()));
                x.left ^= 1 << draw(s, 8);
            }
            st = oneDay(st);
        }
        int whole = 0;
        int borne = 0;
        for (Sheet x : st.sheets) {
            whole += x.burnt() ? 0 : 1;
            borne += x.bearer != null ? 1 : 0;
        }
        return what == 0 ? allKnown(st).size() : what == 1 ? whole : borne;
    }

    private static int draw(int[] seed, int n) {
        seed[0] = (int) (seed[0] * 1103515245L + 12345L);
        return (int) ((seed[0] & 0x7fffffffL) / 65536) % n;
    }

    // ---------------------------------------------------------------- part 5

    public int wisest(int days) {
        range(days, 0, 40);
        State st = after(now, days);
        int best = NONE;
        for (int c = st.known.size() - 1; c >= 0; c--) {
            if (best == NONE || st.known.get(c).size() >= st.known.get(best).size()) {
                best = c;
            }
        }
        return best;
    }

    public int company(int clerk, int other, int days) {
        clerkIn(clerk);
        clerkIn(other);
        range(days, 1, 60);
        int many = 0;
        for (int d = 0; d < days; d++) {
            State st = new State();
            st.day = now.day + d;
            many += clerkTown(st, clerk) == clerkTown(st, other) ? 1 : 0;
        }
        return many;
    }

    public int together(int many) {
        range(many, 1, 6);
        for (int d = 0; d <= 60; d++) {
            State st = new State();
            st.day = now.day + d;
            for (int t = 0; t < 4; t++) {
                if (clerksThere(st, t).size() >= many) {
                    return d;
                }
            }
        }
        return NONE;
    }

    public int odd(int what) {
        what(what, 3);
        int b = 0;
        int n = now.sheets.size();
        if (what == 0) {
            for (int s = 0; s < n; s++) {
                boolean alone = !now.sheets.get(s).burnt();
                for (int o = 0; o < n; o++) {
                    alone &= !fits(now, s, o) && !fits(now, o, s);
                }
                b += alone ? 1 << s : 0;
            }
            return b;
        }
        if (what == 3) {
            Set<Set<Integer>> couples = new HashSet<>();
            for (int s = 0; s < n; s++) {
                for (int o = 0; o < n; o++) {
                    if (fits(now, s, o)) {
                        couples.add(Set.of(s, o));
                    }
                }
            }
            for (int[] w : spec.words) {
                couples.remove(Set.of(w[0], w[1]));
            }
            return couples.size();
        }
        for (int w = 0; w < spec.words.size(); w++) {
            int x = spec.words.get(w)[0];
            int y = spec.words.get(w)[1];
            boolean dead = now.sheets.get(x).burnt() || now.sheets.get(y).burnt();
            if (what == 1 ? dead : !dead && !fits(now, x, y)) {
                b |= 1 << w;
            }
        }
        return b;
    }

    public int far(int left, int right) {
        sheetIn(left);
        sheetIn(right);
        return Integer.bitCount(now.sheets.get(left).right ^ now.sheets.get(right).left);
    }

    public int unread(int days) {
        range(days, 0, 40);
        return spec.words.size() - allKnown(after(now, days)).size();
    }

    public int heir(int clerk) {
        clerkIn(clerk);
        int best = NONE;
        int most = -1;
        for (int c = 0; c < now.known.size(); c++) {
            Set<Integer> both = new TreeSet<>(now.known.get(clerk));
            both.retainAll(now.known.get(c));
            if (c != clerk && both.size() > most) {
                most = both.size();
                best = c;
            }
        }
        return best;
    }

    public int laid(int days) {
        range(days, 1, 40);
        int many = 0;
        for (int d = 1; d <= days; d++) {
            many += after(now, d).known.equals(after(now, d - 1).known) ? 0 : 1;
        }
        return many;
    }

    // ---------------------------------------------------------------- image

    public void image() {
        imageState = now.copy();
        imageActs = new ArrayDeque<>();
        for (State s : acts) {
            imageActs.addLast(s.copy());
        }
        imageHeard = new ArrayList<>(heard);
    }

    public boolean restore() {
        if (imageState == null) {
            return false;
        }
        now = imageState.copy();
        acts = new ArrayDeque<>();
        for (State s : imageActs) {
            acts.addLast(s.copy());
        }
        heard = new ArrayList<>(imageHeard);
        return true;
    }
}
