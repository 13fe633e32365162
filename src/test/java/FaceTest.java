import java.lang.reflect.Constructor;
import java.lang.reflect.Field;
import java.lang.reflect.Method;
import java.lang.reflect.Modifier;
import java.nio.file.Files;
import java.nio.file.Path;
import java.util.ArrayList;
import java.util.Arrays;
import java.util.List;
import java.util.Set;
import java.util.TreeSet;
import java.util.regex.Matcher;
import java.util.regex.Pattern;

/** The public face is the document's and no more, and the source keeps to what LANGUAGE.md leaves. */
public final class FaceTest {
    private static final Check CHECK = new Check();

    private static final Path DOCUMENT = Path.of("../shared/DOC.md");
    private static final Pattern METHOD = Pattern.compile("    public (int|boolean|void) (\\w+)\\((.*)\\)(?: throws (.*))?;");
    private static final int METHODS = 43;

    public static void main(String[] args) throws Exception {
        members();
        inside();
        if (args.length > 0) {
            source(Files.readString(Path.of(args[0])));
        }
        CHECK.end();
    }

    private static void members() throws Exception {
        CHECK.is("the class is public and final", TwinInk.class.getModifiers(), Modifier.PUBLIC | Modifier.FINAL);
        Set<String> due = face();
        CHECK.is("methods of the document", due.size(), METHODS);
        Set<String> names = new TreeSet<>();
        for (Method m : TwinInk.class.getDeclaredMethods()) {
            if (Modifier.isPublic(m.getModifiers())) {
                names.add(m.getName());
                CHECK.is(shape(m) + " is the document's", due.remove(shape(m)), true);
                CHECK.is(shape(m) + " is no static one", Modifier.isStatic(m.getModifiers()), false);
            }
        }
        for (String missing : due) {
            CHECK.is(missing + " is there", false, true);
        }
        for (Method m : TwinInk.class.getDeclaredMethods()) {
            if (!Modifier.isPublic(m.getModifiers()) && !m.isSynthetic()) {
                CHECK.is(m.getName() + " is private", Modifier.isPrivate(m.getModifiers()), true);
                CHECK.is(m.getName() + " has a name of its own", names.contains(m.getName()), false);
                CHECK.is(m.getName() + " has seven parameters at most", m.getParameterCount() <= 7, true);
            }
        }
        for (Field f : TwinInk.class.getDeclaredFields()) {
            boolean isFace = f.getName().equals("NONE");
            CHECK.is(f.getName() + " is public", Modifier.isPublic(f.getModifiers()), isFace);
            CHECK.is(f.getName() + " is private", Modifier.isPrivate(f.getModifiers()), !isFace);
        }
        Constructor<?>[] made = TwinInk.class.getDeclaredConstructors();
        CHECK.is("one constructor", made.length, 1);
        CHECK.is("it is public", Modifier.isPublic(made[0].getModifiers()), true);
        CHECK.is("it takes nothing", made[0].getParameterCount(), 0);
        CHECK.is("NONE", TwinInk.class.getField("NONE").getInt(null), -1);
        CHECK.is("NONE is final", Modifier.isFinal(TwinInk.class.getField("NONE").getModifiers()), true);
    }

    /** The methods that stand in the document's face, as shape() tells them. */
    private static Set<String> face() throws Exception {
        Set<String> all = new TreeSet<>();
        for (String line : Files.readAllLines(DOCUMENT)) {
            Matcher m = METHOD.matcher(line);
            if (m.matches()) {
                String types = m.group(3).replaceAll(" \\w+(,|$)", "$1");
                all.add(m.group(1) + " " + m.group(2) + "(" + types + ") throws " + (m.group(4) == null ? "" : m.group(4)));
            }
        }
        return all;
    }

    private static String shape(Method m) {
        return m.getReturnType().getSimpleName() + " " + m.getName() + "(" + names(m.getParameterTypes()) + ") throws "
            + names(m.getExceptionTypes());
    }

    private static String names(Class<?>[] types) {
        List<String> all = new ArrayList<>();
        for (Class<?> type : types) {
            all.add(type.getSimpleName());
        }
        return String.join(", ", all);
    }

    private static void inside() {
        Class<?>[] classes = TwinInk.class.getDeclaredClasses();
        CHECK.is("at most twelve classes", classes.length < 12, true);
        List<Class<?>> all = new ArrayList<>(Arrays.asList(classes));
        all.add(TwinInk.class);
        for (Class<?> c : all) {
            if (c != TwinInk.class) {
                CHECK.is(c.getName() + " is static", Modifier.isStatic(c.getModifiers()), true);
                CHECK.is(c.getName() + " isn't public", Modifier.isPublic(c.getModifiers()), false);
            }
            int fields = 0;
            for (Field f : c.getDeclaredFields()) {
                if (Modifier.isStatic(f.getModifiers())) {
                    CHECK.is(f + " is final", Modifier.isFinal(f.getModifiers()), true);
                } else {
                    fields++;
                }
            }
            CHECK.is(c.getName() + " has some twenty fields at most", fields <= 20, true);
        }
    }

    private static void source(String text) {
        String code = text.replaceAll("(?s)/\\*.*?\\*/", "").replaceAll("//[^\n]*", "");
        String[] outside = {"try", "catch", "finally", "synchronized", "assert", "->", "::", "System.currentTimeMillis",
            "System.nanoTime", "Random", "Math.random", "String.format", "equals(", "hashCode", "toString", "Exact",
            "instanceof", "extends", "while (true)", "for (;;)", "import java.util.*"};
        for (String word : outside) {
            CHECK.is("'" + word + "' stands in the source", code.contains(word), false);
        }
        for (String line : code.split("\n")) {
            if (line.startsWith("import ")) {
                boolean may = line.equals("import java.util.Arrays;") || line.equals("import java.util.NoSuchElementException;");
                CHECK.is(line + " is one of the library's", may, true);
            }
            if (line.contains("throw new ")) {
                boolean may = line.contains("throw new IllegalArgumentException(\"")
                    || line.contains("throw new NoSuchElementException(\"");
                CHECK.is(line.trim() + " is one of the document's", may, true);
            }
            // All calls of a run share one room, so rows are made with the object and never by a call.
            if (line.contains("new ") && !line.contains("throw new ")) {
                boolean isField = line.matches("(    private| {8}(private )?final) .* = new .*;");
                CHECK.is(line.trim() + " is made with the object", isField, true);
            }
        }
        CHECK.is("signs 1 to 127 alone", text.chars().allMatch(c -> c > 0 && c < 128), true);
        methodsAreShort(code);
    }

    private static void methodsAreShort(String code) {
        int begun = -1;
        String[] lines = code.split("\n");
        for (int i = 0; i < lines.length; i++) {
            if (lines[i].matches(" {4,8}[a-z].*\\) \\{")) {
                begun = i;
            } else if (lines[i].matches(" {4,8}\\}") && begun >= 0) {
                CHECK.is(lines[begun].trim() + " is short", i - begun <= 60, true);
                begun = -1;
            }
        }
    }
}
