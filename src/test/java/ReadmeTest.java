import java.io.File;
import java.lang.reflect.Method;
import java.lang.reflect.Modifier;
import java.net.URL;
import java.net.URLClassLoader;
import java.nio.file.Files;
import java.nio.file.Path;
import java.util.ArrayList;
import java.util.Comparator;
import java.util.List;
import java.util.regex.Matcher;
import java.util.regex.Pattern;
import java.util.stream.Stream;

/** What README.md says is so: its code compiles, and each call that it shows answers as the comment behind it says. */
public final class ReadmeTest {
    /** A call that README.md shows. */
    public interface Call {
        Object answer();
    }

    private static final Check CHECK = new Check();
    private static final Pattern CALL = Pattern.compile("(?s)([^;\"]*(?:\"[^\"]*\"[^;\"]*)*); // (-?\\d+|true|false|throws \\w+)(:.*)?");
    private static int shown = 0;

    public static void main(String[] args) throws Exception {
        String page = Files.readString(Path.of("README.md"));
        StringBuilder members = new StringBuilder();
        StringBuilder body = new StringBuilder();
        List<String> blocks = javaBlocks(page);
        for (String block : blocks) {
            if (block.startsWith("static ")) {
                members.append(block);
            } else {
                body.append(dueCalls(block));
            }
        }
        everyCallIsShown(members + "" + body);
        everyTestIsNamed(page);
        runShown("public final class ReadmeCalls {\n" + members + "public static void run() {\n" + body + "}\n}\n");
        CHECK.is("README.md shows some sixty calls", shown > 50, true);
        CHECK.end();
    }

    private static List<String> javaBlocks(String page) {
        List<String> blocks = new ArrayList<>();
        Matcher m = Pattern.compile("(?s)```java\n(.*?)```").matcher(page);
        while (m.find()) {
            blocks.add(m.group(1));
        }
        return blocks;
    }

    /** A statement with an answer behind it becomes one that looks at the answer; others stay as they are. */
    private static String dueCalls(String block) {
        StringBuilder code = new StringBuilder();
        String statement = "";
        for (String line : block.split("\n")) {
            statement += (statement.isEmpty() ? "" : "\n") + line;
            Matcher m = CALL.matcher(statement);
            if (m.matches()) {
                String name = m.group(1).replaceAll("\\s+", " ").replace("\"", "'");
                code.append("ReadmeTest.due(\"" + name + "\", () -> " + m.group(1) + ", \"" + m.group(2) + "\");\n");
                statement = "";
            } else if (line.endsWith(";")) {
                code.append(statement).append('\n');
                statement = "";
            }
        }
        CHECK.is("a statement without an end: '" + statement + "'", statement.isEmpty(), true);
        return code.toString();
    }

    public static void due(String call, Call c, String due) {
        shown++;
        String got;
        try {
            got = String.valueOf(c.answer());
        } catch (RuntimeException e) {
            got = "throws " + e.getClass().getSimpleName();
        }
        CHECK.is("README.md's " + call, got, due);
    }

    private static void everyCallIsShown(String code) {
        for (Method m : TwinInk.class.getDeclaredMethods()) {
            if (Modifier.isPublic(m.getModifiers())) {
                CHECK.is("README.md shows " + m.getName(), code.contains("ink." + m.getName() + "("), true);
            }
        }
    }

    private static void everyTestIsNamed(String page) {
        for (File file : new File("src/test/java").listFiles()) {
            if (file.getName().endsWith(".java")) {
                String name = file.getName().replace(".java", "");
                CHECK.is("README.md names " + name, page.contains("`" + name + "`"), true);
            }
        }
    }

    private static void runShown(String code) throws Exception {
        Path folder = Files.createTempDirectory("readme");
        try {
            Path source = folder.resolve("ReadmeCalls.java");
            Files.writeString(source, code);
            int failed = new ProcessBuilder("javac", "-cp", System.getProperty("java.class.path"), "-d", folder.toString(),
                source.toString()).inheritIO().start().waitFor();
            CHECK.is("what javac says of README.md's code", failed, 0);
            if (failed == 0) {
                try (URLClassLoader loader = new URLClassLoader(new URL[] {folder.toUri().toURL()})) {
                    loader.loadClass("ReadmeCalls").getMethod("run").invoke(null);
                }
            }
        } finally {
            clear(folder);
        }
    }

    private static void clear(Path folder) throws Exception {
        try (Stream<Path> all = Files.walk(folder)) {
            for (Path path : all.sorted(Comparator.reverseOrder()).toList()) {
                Files.delete(path);
            }
        }
    }
}
