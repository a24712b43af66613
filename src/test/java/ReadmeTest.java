import java.io.ByteArrayOutputStream;
import java.io.PrintStream;
import java.lang.reflect.Field;
import java.lang.reflect.Method;
import java.lang.reflect.Modifier;
import java.net.URL;
import java.net.URLClassLoader;
import java.nio.charset.StandardCharsets;
import java.nio.file.Files;
import java.nio.file.Path;
import java.util.ArrayList;
import java.util.List;
import java.util.Set;
import java.util.TreeSet;
import java.util.regex.Matcher;
import java.util.regex.Pattern;
import javax.tools.JavaCompiler;
import javax.tools.ToolProvider;

/** README.md tells each call and constant of the public face, and its example prints what it says there. */
public final class ReadmeTest {
    private static final Path EXAMPLE = Path.of("build/readme");
    private static int wrong = 0;

    private static void due(boolean isSo, String what) {
        if (!isSo) {
            wrong++;
            System.out.println("not so: " + what);
        }
    }

    private static String read(String file) throws Exception {
        return new String(Files.readAllBytes(Path.of(file)), StandardCharsets.UTF_8);
    }

    private static List<String> found(String pattern, String text) {
        List<String> all = new ArrayList<>();
        Matcher m = Pattern.compile(pattern, Pattern.MULTILINE).matcher(text);
        while (m.find()) {
            all.add(m.group(1));
        }
        return all;
    }

    /** The rows of the calls are those of the document's face, in its order, and each tells all that it should. */
    private static void calls(String readme) throws Exception {
        List<String> face = found("^    public ((?:int|long) \\w+\\(.*\\));$", read("../shared/DOC.md"));
        due(face.size() == 33, "the document's face has 33 calls");
        List<String> rows = found("^\\| `((?:int|long) \\w+\\(.*\\))` \\|", readme);
        due(rows.equals(face), "the calls told are the face's: " + rows);
        for (String row : readme.split("\n")) {
            if (row.matches("\\| `(int|long) .*")) {
                String[] cells = row.split("\\|", -1);
                due(cells.length == 6 && !cells[2].isBlank() && !cells[3].isBlank(), "three parts behind the call: " + row);
            }
        }
    }

    private static void constants(String readme) throws Exception {
        Set<String> told = new TreeSet<>(found("^\\| `(\\w+)` \\| (?:-\\d+|`Long.MIN_VALUE`) \\|", readme));
        Set<String> due = new TreeSet<>();
        for (Field f : GoodNewsPigeons.class.getDeclaredFields()) {
            if (Modifier.isPublic(f.getModifiers())) {
                due.add(f.getName());
                String value = f.getType() == long.class ? "`Long.MIN_VALUE`" : "" + f.getInt(null);
                due(readme.contains("| `" + f.getName() + "` | " + value + " |"), f.getName() + " is told as " + value);
            }
        }
        due(GoodNewsPigeons.NO == Long.MIN_VALUE, "NO is Long.MIN_VALUE");
        due(told.equals(due), "the constants told are the face's: " + told);
    }

    private static void example(String readme) throws Exception {
        List<String> blocks = found("^```java\n((?s:.*?))^```$", readme);
        due(blocks.size() == 1, "there is one example");
        String source = blocks.isEmpty() ? "" : blocks.get(0);
        for (Method m : GoodNewsPigeons.class.getDeclaredMethods()) {
            boolean isOpen = Modifier.isPublic(m.getModifiers());
            due(!isOpen || source.contains("x." + m.getName() + "("), "the example calls " + m.getName());
        }
        List<String> dues = new ArrayList<>();
        for (String line : source.split("\n")) {
            if (line.contains("System.out")) {
                Matcher m = Pattern.compile("^ *System\\.out\\.println\\(.*\\); +// (\\S+): ").matcher(line);
                due(m.find(), "the line tells what it prints: " + line);
                dues.add(m.reset().find() ? m.group(1) : "");
            }
        }
        List<String> got = List.of(printed(source).split("\n"));
        due(got.size() == dues.size(), "it prints " + dues.size() + " lines: " + got.size());
        for (int i = 0; i < Math.min(got.size(), dues.size()); i++) {
            due(got.get(i).equals(dues.get(i)), "line " + (i + 1) + " that it prints is " + got.get(i) + ", due is " + dues.get(i));
        }
    }

    private static String printed(String source) throws Exception {
        Files.createDirectories(EXAMPLE);
        Path file = EXAMPLE.resolve("Example.java");
        Files.write(file, source.getBytes(StandardCharsets.UTF_8));
        JavaCompiler javac = ToolProvider.getSystemJavaCompiler();
        String classes = System.getProperty("java.class.path");
        int failed = javac.run(null, null, null, "-encoding", "UTF-8", "-implicit:none", "-cp", classes, "-d", EXAMPLE.toString(),
            file.toString());
        due(failed == 0, "the example is compiled");
        if (failed != 0) {
            return "";
        }
        PrintStream screen = System.out;
        ByteArrayOutputStream bytes = new ByteArrayOutputStream();
        try (URLClassLoader loader = new URLClassLoader(new URL[] {EXAMPLE.toUri().toURL()})) {
            System.setOut(new PrintStream(bytes, true));
            loader.loadClass("Example").getMethod("main", String[].class).invoke(null, (Object) new String[0]);
        } finally {
            System.setOut(screen);
        }
        return bytes.toString().replace("\r", "");
    }

    public static void main(String[] args) throws Exception {
        String readme = read("README.md");
        calls(readme);
        constants(readme);
        example(readme);
        System.out.println(wrong == 0 ? "all is as told" : wrong + " things are not as told");
        if (wrong != 0) {
            System.exit(1);
        }
    }
}
