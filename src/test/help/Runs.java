import java.lang.reflect.InvocationTargetException;
import java.lang.reflect.Method;
import java.lang.reflect.Modifier;
import java.nio.charset.StandardCharsets;
import java.nio.file.Files;
import java.nio.file.Path;
import java.util.ArrayList;
import java.util.HashMap;
import java.util.List;
import java.util.Map;
import java.util.regex.Matcher;
import java.util.regex.Pattern;

/**
 * Runs of calls, told as texts: a call on each line, with the answer that is due.
 * <pre>
 * pigeon(0, 5) = 0     it answers so
 * pigeon(7, 5) ! -1    it answers so, and all is as it was: each later answer is as without this call
 * told(3) ~            the same, whatever it answers
 * pass(60) * 166       it is called so many times, whatever it answers
 * feed "rest 7"        each of these signs is fed, whatever that answers
 * loft "rest 7" = 0    these signs are fed, and then loft() answers so
 * </pre>
 * LOW, HIGH, NO and MAX stand for the least and greatest int and long. Each run names the sentence that it is for,
 * as "Terms: .." or "Promise 2: ..", and that sentence must stand in that part of the document.
 */
final class Runs {
    private static final int CALLS = 512;
    private static final Pattern CALL = Pattern.compile("(\\w+)\\((.*)\\) (?:([=!*]) (\\S+)|~)");
    private static final Pattern SIGNS = Pattern.compile("(feed|loft) \"(.*)\"(?: ([=!]) (\\S+))?");
    private static final Map<String, Method> FACE = face();
    private static final List<List<Call>> PROBES = Probes.all();
    private static final Map<String, String> DOCUMENT = document();
    private static int wrong = 0;
    private static int runs = 0;

    private record Call(String text, Method method, Object[] args) {
        long on(GoodNewsPigeons x) {
            try {
                Object answer = method.invoke(x, args);
                return ((Number) answer).longValue();
            } catch (InvocationTargetException e) {
                throw new IllegalStateException(text + " throws " + e.getCause());
            } catch (IllegalAccessException e) {
                throw new IllegalStateException(text + " is not open");
            }
        }
    }

    private record Line(Call call, char mark, long due, int times) {
    }

    private Runs() {
    }

    static void told(String sentence, String... texts) {
        named(sentence);
        runs++;
        String before = null;
        List<Call> done = new ArrayList<>();
        GoodNewsPigeons x = new GoodNewsPigeons();
        int calls = 0;
        for (Line line : lines(String.join("\n", texts))) {
            for (int i = 0; i < line.times; i++) {
                long got = line.call.on(x);
                calls++;
                if ((line.mark == '=' || line.mark == '!') && got != line.due) {
                    wrong(sentence, line.call.text + " answered " + got + ", due is " + line.due);
                }
                if (line.mark == '=' || line.mark == '*') {
                    done.add(line.call);
                    before = null;
                }
            }
            if (line.mark == '!' || line.mark == '~') {
                before = before == null ? answersBehind(done, null) : before;
                stays(sentence, line.call.text + " leaves all as it was", before, answersBehind(done, line.call));
            }
        }
        if (calls > CALLS) {
            wrong(sentence, "the run has " + calls + " calls");
        }
    }

    /** Behind the one run all is as behind the other: each later answer is the same. */
    static void same(String sentence, String text, String other) {
        named(sentence);
        told(sentence, text);
        told(sentence, other);
        stays(sentence, "two runs are alike", answersBehind(calls(text), null), answersBehind(calls(other), null));
    }

    static void due(String sentence, String what, long got, long want) {
        named(sentence);
        if (got != want) {
            wrong(sentence, what + " is " + got + ", due is " + want);
        }
    }

    static void ends() {
        System.out.println(runs + " runs, " + (wrong == 0 ? "all answers are as due" : wrong + " things are not as due"));
        if (wrong != 0) {
            System.exit(1);
        }
    }

    private static void wrong(String sentence, String what) {
        wrong++;
        if (wrong <= 100) {
            System.out.println(sentence + "\n    " + what);
        }
    }

    private static void named(String sentence) {
        int colon = sentence.indexOf(": ");
        String part = DOCUMENT.get(sentence.substring(0, Math.max(0, colon)));
        if (part == null || !part.contains(sentence.substring(colon + 2).replaceAll("\\s+", " "))) {
            wrong(sentence, "no such sentence in the document");
        }
    }

    private static void stays(String sentence, String what, String before, String after) {
        if (before.equals(after)) {
            return;
        }
        String[] was = before.split("\n");
        String[] is = after.split("\n");
        for (int i = 0; i < Math.min(was.length, is.length); i++) {
            if (!was[i].equals(is[i])) {
                wrong(sentence, what + ": no, " + was[i] + " became " + is[i]);
                return;
            }
        }
        wrong(sentence, what + ": no");
    }

    /** What new objects answer to all PROBES behind these calls and a last one, if there is one. */
    private static String answersBehind(List<Call> done, Call last) {
        StringBuilder answers = new StringBuilder();
        for (List<Call> probes : PROBES) {
            GoodNewsPigeons x = new GoodNewsPigeons();
            for (Call call : done) {
                call.on(x);
            }
            if (last != null) {
                last.on(x);
            }
            if (done.size() + 1 + probes.size() > CALLS) {
                wrong("", "too many calls: " + (done.size() + 1 + probes.size()));
            }
            for (Call probe : probes) {
                answers.append(probe.text).append(" = ").append(probe.on(x)).append('\n');
            }
        }
        return answers.toString();
    }

    private static List<Call> calls(String text) {
        List<Call> calls = new ArrayList<>();
        for (Line line : lines(text)) {
            for (int i = 0; i < line.times; i++) {
                calls.add(line.call);
            }
        }
        return calls;
    }

    private static List<Line> lines(String text) {
        List<Line> lines = new ArrayList<>();
        for (String row : text.split("\n")) {
            String told = row.replaceFirst("  // .*", "").strip();
            Matcher signs = SIGNS.matcher(told);
            Matcher call = CALL.matcher(told);
            if (signs.matches()) {
                for (char sign : signs.group(2).toCharArray()) {
                    lines.add(new Line(call("feed", "" + (int) sign), '*', 0, 1));
                }
                if (signs.group(1).equals("loft")) {
                    lines.add(new Line(call("loft", ""), signs.group(3).charAt(0), number(signs.group(4)), 1));
                }
            } else if (call.matches()) {
                char mark = call.group(3) == null ? '~' : call.group(3).charAt(0);
                long n = mark == '~' ? 0 : number(call.group(4));
                lines.add(new Line(call(call.group(1), call.group(2)), mark, n, mark == '*' ? (int) n : 1));
            } else if (!told.isEmpty()) {
                throw new IllegalStateException("no line of a run: " + told);
            }
        }
        return lines;
    }

    private static Call call(String name, String list) {
        Method method = FACE.get(name);
        String[] told = list.isEmpty() ? new String[0] : list.split(", ");
        if (method == null || told.length != method.getParameterCount()) {
            throw new IllegalStateException("no such call: " + name + "(" + list + ")");
        }
        Object[] args = new Object[told.length];
        for (int i = 0; i < told.length; i++) {
            Class<?> type = method.getParameterTypes()[i];
            if (type == boolean.class) {
                args[i] = told[i].equals("true");
            } else if (type == long.class) {
                args[i] = number(told[i]);
            } else {
                args[i] = Math.toIntExact(number(told[i]));
            }
        }
        return new Call(name + "(" + list + ")", method, args);
    }

    private static long number(String told) {
        switch (told) {
            case "LOW": return Integer.MIN_VALUE;
            case "HIGH": return Integer.MAX_VALUE;
            case "NO": return Long.MIN_VALUE;
            case "MAX": return Long.MAX_VALUE;
            default: return told.startsWith("0b") ? Long.parseLong(told.substring(2), 2) : Long.parseLong(told);
        }
    }

    private static Map<String, Method> face() {
        Map<String, Method> face = new HashMap<>();
        for (Method m : GoodNewsPigeons.class.getDeclaredMethods()) {
            if (Modifier.isPublic(m.getModifiers())) {
                face.put(m.getName(), m);
            }
        }
        return face;
    }

    /** The parts of the document by name, each with single blanks between its words. */
    private static Map<String, String> document() {
        Map<String, String> parts = new HashMap<>();
        String whole;
        try {
            whole = new String(Files.readAllBytes(Path.of("../shared/DOC.md")), StandardCharsets.UTF_8);
        } catch (java.io.IOException e) {
            throw new IllegalStateException("../shared/DOC.md can't be read");
        }
        for (String part : whole.split("(?m)^## ")) {
            String head = part.substring(0, part.indexOf('\n'));
            String name = head.startsWith("Promise ") ? head.substring(0, head.indexOf(':')) : head;
            parts.put(name, part.replaceAll("\\s+", " "));
        }
        return parts;
    }

    /** What is asked, and at last done, to see how all is: each list on an object of its own. */
    private static final class Probes {
        private static final int[] SETS = {0, 1, 3, 7, 15, 4095};

        static List<List<Call>> all() {
            List<List<Call>> all = new ArrayList<>();
            all.add(counts());
            all.add(now());
            all.add(asked());
            all.add(tapes(0));
            all.add(tapes(3));
            all.add(rows());
            all.add(later());
            all.add(undone());
            return all;
        }

        private static void add(List<Call> probes, String name, int... numbers) {
            StringBuilder list = new StringBuilder();
            for (int n : numbers) {
                list.append(list.length() == 0 ? "" : ", ").append(n);
            }
            probes.add(call(name, list.toString()));
        }

        private static void each(List<Call> probes, String name, int from, int to) {
            for (int n = from; n <= to; n++) {
                add(probes, name, n);
            }
        }

        /** By themselves, since an ask that changed them unasked would hide behind asks that do the same. */
        private static List<Call> counts() {
            List<Call> probes = new ArrayList<>();
            each(probes, "count", 0, 6);
            each(probes, "trace", 0, 20);
            return probes;
        }

        private static List<Call> now() {
            List<Call> probes = new ArrayList<>();
            for (int p = 0; p < 6; p++) {
                for (int what = 0; what <= 6; what++) {
                    add(probes, "of", p, what);
                }
                for (int set : SETS) {
                    add(probes, "joy", p, set);
                }
                add(probes, "taken", p, 0);
            }
            each(probes, "told", 0, 3);
            each(probes, "told", 10, 21);
            each(probes, "told", 30, 41);
            each(probes, "count", 0, 6);
            each(probes, "trace", 0, 20);
            return probes;
        }

        private static List<Call> asked() {
            List<Call> probes = new ArrayList<>();
            each(probes, "told", 50, 57);
            each(probes, "told", 60, 71);
            for (int p = 0; p < 6; p++) {
                add(probes, "on", 1, 10 + p);
                add(probes, "on", 60, 10 + p);
                add(probes, "on", 1, 20 + p);
                add(probes, "on", 60, 20 + p);
                add(probes, "wording", p, 0);
                add(probes, "wording", p, 255);
                add(probes, "can", p, 0);
                add(probes, "can", p, 1);
                add(probes, "odds", p, 0);
                add(probes, "odds", p, 1);
            }
            each(probes, "birds", 0, 16);
            each(probes, "birds", 255, 255);
            each(probes, "mean", 0, 1);
            each(probes, "ends", 0, 1);
            add(probes, "looked");
            add(probes, "on", 1, 0);
            add(probes, "on", 60, 0);
            return probes;
        }

        private static List<Call> tapes(int from) {
            List<Call> probes = new ArrayList<>();
            for (int t = from; t < from + 3; t++) {
                add(probes, "judge", t, 0);
                for (int i = 0; i <= 60; i++) {
                    add(probes, "read", t, i);
                }
                probes.add(call("item", t + ", 0, 81985529216486895"));
                add(probes, "read", t, 0);
            }
            return probes;
        }

        /** What SEEN, the PLAN and the BOOK hold, by how they come out when other things are otherwise. */
        private static List<Call> rows() {
            List<Call> probes = new ArrayList<>();
            for (int p = 0; p < 6; p++) {
                add(probes, "letter", p, 1 << p);
                add(probes, "tire", p, p);
            }
            for (int cheer = 9; cheer >= 0; cheer--) {
                for (int w = cheer; w < 12; w++) {
                    add(probes, "phrase", w, 0, cheer);
                }
                add(probes, "looked");
                add(probes, "ends", 0);
                add(probes, "ends", 1);
                add(probes, "told", 60);
                add(probes, "told", 71);
                add(probes, "can", 1, 0);
            }
            return probes;
        }

        private static List<Call> later() {
            List<Call> probes = new ArrayList<>();
            add(probes, "loft");
            each(probes, "told", 0, 3);
            for (int days = 1; days <= 3; days++) {
                add(probes, "pass", days);
                for (int p = 0; p < 6; p++) {
                    for (int what = 2; what <= 6; what++) {
                        add(probes, "of", p, what);
                    }
                    add(probes, "joy", p, 7);
                }
            }
            add(probes, "pigeon", 1, 2);
            each(probes, "count", 0, 6);
            each(probes, "told", 0, 3);
            return probes;
        }

        private static List<Call> undone() {
            List<Call> probes = new ArrayList<>();
            add(probes, "undo");
            for (Call call : now()) {
                probes.add(call);
            }
            each(probes, "told", 60, 71);
            each(probes, "ends", 0, 1);
            add(probes, "looked");
            return probes;
        }
    }
}
