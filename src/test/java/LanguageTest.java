import java.lang.reflect.Constructor;
import java.lang.reflect.Field;
import java.lang.reflect.Method;
import java.lang.reflect.Modifier;
import java.nio.charset.StandardCharsets;
import java.nio.file.Files;
import java.nio.file.Path;
import java.util.ArrayList;
import java.util.Arrays;
import java.util.Collections;
import java.util.HashSet;
import java.util.List;
import java.util.Set;
import java.util.regex.Matcher;
import java.util.regex.Pattern;

/** The public face, and those rules of LANGUAGE.md that the program's text and its compiled classes show. */
public final class LanguageTest {
    private static final String[] FACE = {
        "int pigeon(int,int)", "int of(int,int)", "int joy(int,int)", "int letter(int,int)", "int tire(int,int)",
        "int phrase(int,int,int)", "int row(int,int,int)", "int feed(int)", "int loft()", "int told(int)", "int pass(int)",
        "int on(int,int)", "int wording(int,int)", "int birds(int)", "int see(int,int,boolean)", "int can(int,int)",
        "long odds(int,int)", "long mean(int)", "int plan(int,int)", "int ends(int)", "int book(int,int)", "int looked()",
        "int judge(int,int)", "int image()", "int undo()", "int act(int,int,int)", "int trace(int)", "int taken(int,int)",
        "int count(int)", "int tape(int,int,int)", "int item(int,int,long)", "long read(int,int)",
        "int shift(int,int,int,int,int)"};
    private static final String[] NEVER = {"throw", "throws", "try", "catch", "finally", "synchronized", "assert", "import",
        "package", "double", "float", "Object", "System.out", "System.exit", "equals(", "hashCode", "toString", "->", "::",
        "protected", "volatile", "native", "Random", "Thread", "currentTimeMillis", "nanoTime", "Exact", "@", "while", "do"};
    private static final String[] LIBRARY = {"Integer.bitCount", "Math.min", "Math.max", "System.arraycopy", "Long.MIN_VALUE"};
    private static int wrong = 0;

    private static void due(boolean isSo, String what) {
        if (!isSo) {
            wrong++;
            System.out.println("not so: " + what);
        }
    }

    private static String written(Method m) {
        List<String> types = new ArrayList<>();
        for (Class<?> type : m.getParameterTypes()) {
            types.add(type.getName());
        }
        return m.getReturnType().getName() + " " + m.getName() + "(" + String.join(",", types) + ")";
    }

    private static void face() {
        Class<?> c = GoodNewsPigeons.class;
        due(Modifier.isPublic(c.getModifiers()) && Modifier.isFinal(c.getModifiers()), "the class is public and final");
        List<String> open = new ArrayList<>();
        Set<String> names = new HashSet<>();
        for (Method m : c.getDeclaredMethods()) {
            if (Modifier.isPublic(m.getModifiers())) {
                open.add(written(m));
                names.add(m.getName());
            } else {
                due(m.isSynthetic() || Modifier.isPrivate(m.getModifiers()), m.getName() + " is private");
            }
        }
        List<String> asTold = new ArrayList<>(Arrays.asList(FACE));
        Collections.sort(open);
        Collections.sort(asTold);
        due(open.equals(asTold), "the methods are the face's: " + open);
        for (Method m : c.getDeclaredMethods()) {
            due(Modifier.isPublic(m.getModifiers()) || !names.contains(m.getName()), m.getName() + " is no public one's name");
        }
        Constructor<?>[] made = c.getDeclaredConstructors();
        due(made.length == 1 && Modifier.isPublic(made[0].getModifiers()) && made[0].getParameterCount() == 0, "one constructor");
        Set<String> constants = new HashSet<>(Arrays.asList("NONE", "BAD", "STATE", "FULL", "NO"));
        for (Field f : c.getDeclaredFields()) {
            due(constants.contains(f.getName()) == Modifier.isPublic(f.getModifiers()), f.getName() + " is as told");
            due(Modifier.isPublic(f.getModifiers()) || Modifier.isPrivate(f.getModifiers()), f.getName() + " is hidden");
        }
    }

    private static void classesInside() {
        Class<?>[] inside = GoodNewsPigeons.class.getDeclaredClasses();
        due(inside.length <= 11, "some twelve classes at most");
        List<Class<?>> all = new ArrayList<>(Arrays.asList(inside));
        all.add(GoodNewsPigeons.class);
        for (Class<?> c : all) {
            due(c == GoodNewsPigeons.class || Modifier.isStatic(c.getModifiers()), c.getName() + " is static");
            due(c == GoodNewsPigeons.class || !Modifier.isPublic(c.getModifiers()), c.getName() + " is hidden");
            due(c.getDeclaredClasses().length == 0 || c == GoodNewsPigeons.class, c.getName() + " has none inside");
            int held = 0;
            for (Field f : c.getDeclaredFields()) {
                if (Modifier.isStatic(f.getModifiers())) {
                    due(Modifier.isFinal(f.getModifiers()), f.getName() + " is final");
                    due(f.getType().isPrimitive() || f.getType() == String.class, f.getName() + " is a constant");
                } else {
                    held++;
                }
            }
            due(held <= 20, c.getName() + " has some twenty fields");
            for (Method m : c.getDeclaredMethods()) {
                due(m.getParameterCount() <= 7, m.getName() + " takes seven parameters at most");
            }
        }
    }

    private static String withoutRemarks(String source) {
        String s = Pattern.compile("/\\*.*?\\*/", Pattern.DOTALL).matcher(source).replaceAll("");
        s = s.replaceAll("//[^\n]*", "");
        return s.replaceAll("\"(\\\\.|[^\"\\\\])*\"", "\"\"").replaceAll("'(\\\\.|[^'\\\\])'", "' '");
    }

    private static void words(String source) {
        for (int i = 0; i < source.length(); i++) {
            if (source.charAt(i) > 126) {
                due(false, "the text's signs are 126 at most");
                return;
            }
        }
        String s = withoutRemarks(source);
        for (String never : NEVER) {
            String quoted = Pattern.quote(never);
            boolean isWord = Character.isLetter(never.charAt(0)) && Character.isLetter(never.charAt(never.length() - 1));
            Matcher m = Pattern.compile(isWord ? "\\b" + quoted + "\\b" : quoted).matcher(s);
            due(!m.find(), "there is no " + never);
        }
        Matcher library = Pattern.compile("\\b(Integer|Long|Math|System|Arrays|String|Character|Boolean)\\.\\w+").matcher(s);
        while (library.find()) {
            due(Arrays.asList(LIBRARY).contains(library.group()), library.group() + " is of the library told");
        }
        due(!s.contains("\"\" +") && !s.contains("+ \"\""), "no text is joined by +");
    }

    private static void lengths(String source) {
        int begun = -1;
        String[] lines = source.split("\n");
        Pattern head = Pattern.compile("^(    |        )[a-zA-Z].*\\) \\{$");
        String indent = "";
        for (int i = 0; i < lines.length; i++) {
            due(lines[i].length() <= 120, "line " + (i + 1) + " is no longer than 120 signs");
            Matcher m = head.matcher(lines[i]);
            if (begun < 0 && m.find() && !lines[i].contains(" class ")) {
                begun = i;
                indent = m.group(1);
            } else if (begun >= 0 && lines[i].equals(indent + "}")) {
                due(i - begun < 60, "the method at line " + (begun + 1) + " is short");
                begun = -1;
            }
        }
        due(begun < 0, "each method ends");
    }

    public static void main(String[] args) throws Exception {
        face();
        classesInside();
        byte[] bytes = Files.readAllBytes(Path.of("src/main/java/GoodNewsPigeons.java"));
        String source = new String(bytes, StandardCharsets.ISO_8859_1);
        words(source);
        lengths(source);
        System.out.println(wrong == 0 ? "all is as told" : wrong + " things are not as told");
        if (wrong != 0) {
            System.exit(1);
        }
    }
}
