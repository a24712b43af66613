import java.lang.reflect.Method;
import java.util.ArrayList;
import java.util.HashSet;
import java.util.List;
import java.util.Random;
import java.util.Set;
import java.util.TreeMap;

/** Many runs of calls by a fixed seed, each answer compared with that of a plainer program, the Model below. */
public final class ModelTest {
    private static final int RUNS = 600, CALLS = 512;
    private static int wrong = 0;

    public static void main(String[] args) throws Exception {
        TreeMap<String, Method> ofClass = new TreeMap<>();
        for (Method m : GoodNewsPigeons.class.getDeclaredMethods()) {
            if (java.lang.reflect.Modifier.isPublic(m.getModifiers())) {
                ofClass.put(m.getName(), m);
            }
        }
        TreeMap<String, Method> ofModel = new TreeMap<>();
        for (Method m : Model.class.getDeclaredMethods()) {
            if (java.lang.reflect.Modifier.isPublic(m.getModifiers())) {
                ofModel.put(m.getName(), m);
            }
        }
        if (!ofClass.keySet().equals(ofModel.keySet()) || ofClass.size() != 33) {
            System.out.println("the Model has other calls: " + ofClass.keySet() + " " + ofModel.keySet());
            wrong++;
        }
        long answers = 0;
        for (int run = 0; run < RUNS && wrong < 20; run++) {
            answers += oneRun(run, ofClass, ofModel);
        }
        System.out.println(answers + " calls, " + (wrong == 0 ? "all answers are as due" : wrong + " runs are not as due"));
        if (wrong != 0) {
            System.exit(1);
        }
    }

    private static int oneRun(int run, TreeMap<String, Method> ofClass, TreeMap<String, Method> ofModel) throws Exception {
        Random random = new Random(run * 7919L + 17);
        Calls calls = new Calls(random);
        GoodNewsPigeons x = new GoodNewsPigeons();
        Model m = new Model();
        StringBuilder told = new StringBuilder();
        for (int c = 0; c < CALLS; c++) {
            Object[] call = calls.next();
            String name = (String) call[0];
            Object[] values = java.util.Arrays.copyOfRange(call, 1, call.length);
            long due = ((Number) ofModel.get(name).invoke(m, values)).longValue();
            long got = ((Number) ofClass.get(name).invoke(x, values)).longValue();
            told.append(name).append(java.util.Arrays.toString(values)).append(" = ").append(got).append('\n');
            if (due != got) {
                wrong++;
                System.out.println("run " + run + ":\n" + told + "due is " + due);
                return c + 1;
            }
        }
        return CALLS;
    }

    /** What is called next, mostly with arguments that are taken. */
    private static final class Calls {
        private static final int[] ODD = {-3, -2, -1, 0, 1, 5, 6, 7, 8, 9, 10, 11, 12, 13, 60, 61, 100, 255, 256, 4095, 4096,
            Integer.MAX_VALUE, Integer.MIN_VALUE};
        private final Random random;
        private final ArrayList<Object[]> ahead = new ArrayList<>();
        private final boolean isOdd;

        Calls(Random random) {
            this.random = random;
            isOdd = random.nextInt(4) == 0;
            int pigeons = random.nextInt(7);
            for (int p = 0; p < pigeons; p++) {
                ahead.add(new Object[] {"pigeon", random.nextInt(7), random.nextInt(10)});
            }
        }

        Object[] next() {
            if (ahead.isEmpty()) {
                plans();
            }
            return ahead.remove(0);
        }

        private int n(int from, int to) {
            if (random.nextInt(isOdd ? 8 : 40) == 0) {
                return ODD[random.nextInt(ODD.length)];
            }
            return from + random.nextInt(to - from + 1);
        }

        private int words() {
            int set = 0;
            for (int i = random.nextInt(6); i > 0; i--) {
                set |= 1 << random.nextInt(12);
            }
            return random.nextInt(8) == 0 ? n(0, 4095) : set;
        }

        private int facts() {
            return random.nextInt(3) == 0 ? n(0, 255) : 1 << random.nextInt(8) | 1 << random.nextInt(8);
        }

        private void add(Object... call) {
            ahead.add(call);
        }

        private void plans() {
            switch (random.nextInt(40)) {
                case 0: add("pigeon", n(0, 6), n(0, 9)); break;
                case 1: case 2: add("of", n(0, 5), n(0, 6)); break;
                case 3: case 4: add("joy", n(0, 5), words()); break;
                case 5: case 6: case 7: case 8: case 9: add("letter", n(0, 5), words()); break;
                case 10: add("tire", n(0, 5), n(0, 9)); break;
                case 11: case 12: phrase(); break;
                case 13: add("row", n(0, 5), n(0, 3), n(0, 9)); break;
                case 14: fed(); break;
                case 15: add("feed", n(0, 127)); add("loft"); break;
                case 16: case 17: case 18: add("told", n(0, 72)); break;
                case 19: case 20: add("pass", random.nextInt(4) == 0 ? n(0, 60) : n(0, 3)); break;
                case 21: add("on", n(0, 60), new int[] {0, 10, 20}[random.nextInt(3)] + n(0, 5)); add("on", n(0, 9), 0); break;
                case 22: add("wording", n(0, 5), facts()); break;
                case 23: add("birds", facts()); break;
                case 24: add("see", random.nextInt(9) == 0 ? -1 : n(0, 5), words(), random.nextInt(3) > 0); break;
                case 25: add("can", n(0, 5), n(0, 1)); add("told", n(60, 71)); break;
                case 26: case 27: add("odds", n(0, 5), 0); add("odds", n(0, 5), n(0, 1)); break;
                case 28: add("mean", n(0, 1)); add("mean", n(0, 1)); break;
                case 29: add("plan", random.nextInt(9) == 0 ? -1 : n(0, 3), n(0, 5)); add("plan", 0, n(0, 1)); break;
                case 30: add("ends", n(0, 1)); break;
                case 31: add("book", random.nextInt(9) == 0 ? -1 : n(0, 11), random.nextInt(4) == 0 ? n(0, 9) : 5); break;
                case 32: add("looked"); break;
                case 33: if (random.nextInt(5) == 0) { add("image"); } else { add("birds", facts()); } break;
                case 34: if (random.nextInt(4) == 0) { add("undo"); } else { add("told", n(50, 57)); } break;
                case 35: add("act", n(0, 5), n(0, 2), n(-9, 9)); add("trace", n(0, 12)); add("act", n(0, 5), n(0, 2), random.nextInt()); break;
                case 36: add("taken", n(0, 5), n(0, 6)); add("count", n(0, 6)); break;
                case 37: add("tape", n(0, 5), random.nextInt(3) == 0 ? 2 : n(-1, 4), random.nextInt(2) == 0 ? 16 : n(0, 60)); break;
                case 38: taped(); break;
                default: add("read", n(0, 5), n(0, 20)); add("shift", n(0, 5), n(0, 5), n(0, 5), n(0, 5), n(0, 8)); break;
            }
        }

        private void phrase() {
            if (random.nextBoolean()) {
                add("phrase", n(0, 11), 0, n(0, 9));
            } else {
                add("phrase", n(0, 11), n(0, 1), facts());
            }
        }

        private void taped() {
            int tape = n(0, 5);
            int from = n(0, 3);
            add("item", tape, from, random.nextLong() >> random.nextInt(64));
            for (int i = 0; i < random.nextInt(13); i++) {
                add("item", tape, from + i, 5L);
            }
            add("judge", tape, from);
            add("judge", n(0, 5), n(0, 20));
        }

        private void fed() {
            StringBuilder text = new StringBuilder();
            int clauses = random.nextInt(9) == 0 ? 11 : 1 + random.nextInt(3);
            for (int c = 0; c < clauses; c++) {
                text.append(c == 0 ? "" : ";");
                int kind = clauses > 9 ? 0 : random.nextInt(3);
                text.append(kind == 0 ? "rest " : kind == 1 ? "glad " : "grim ");
                text.append(number(kind == 0 ? 4 : 20));
                if (kind > 0) {
                    text.append(' ').append(either(0));
                }
            }
            if (random.nextInt(4) == 0 && text.length() > 0) {
                int at = random.nextInt(text.length());
                text.setCharAt(at, "gladrimest 019;|&!()pkvtnd<=>x".charAt(random.nextInt(30)));
            }
            if (random.nextInt(6) == 0) {
                text.setLength(random.nextInt(text.length() + 1));
            }
            for (int i = 0; i < text.length() && i < 101; i++) {
                add("feed", (int) text.charAt(i));
            }
            add("loft");
        }

        private String number(int below) {
            return random.nextInt(30) == 0 ? "123" : random.nextInt(9) == 0 ? "0" + random.nextInt(10) : "" + random.nextInt(below);
        }

        private String either(int depth) {
            return random.nextInt(3) == 0 ? both(depth) + "|" + either(depth) : both(depth);
        }

        private String both(int depth) {
            return random.nextInt(3) == 0 ? one(depth) + "&" + both(depth) : one(depth);
        }

        private String one(int depth) {
            int most = random.nextInt(20) == 0 ? 6 : 4;
            if (depth < most && random.nextInt(4) == 0) {
                return "!" + one(depth + 1);
            }
            if (depth < most && random.nextInt(4) == 0) {
                return "(" + either(depth + 1) + ")";
            }
            int letter = random.nextInt(6);
            return "pkvtnd".charAt(letter) + "" + "<=>".charAt(random.nextInt(3)) + number(letter == 4 ? 7 : 11);
        }
    }

    /** Which texts are LOFTS: all ways to go on with the text are kept at once, as texts of what must still come. */
    private static final class Grammar {
        private static final char CLAUSE = 1000, MORE = 1100, EITHER = 1200, BOTH = 1300, ONE = 1400;
        private static final char NUMBER = 1500, DIGIT = 1501, LETTER = 1502, RELATION = 1503;

        static int faultOf(String text) {
            Set<String> ways = new HashSet<>();
            ways.add("" + (char) (CLAUSE + 10));
            for (int at = 0; at < text.length(); at++) {
                Set<String> next = new HashSet<>();
                for (String way : ways) {
                    onBy(way, text.charAt(at), next);
                }
                if (next.isEmpty()) {
                    return at;
                }
                ways = next;
            }
            for (String way : ways) {
                if (way.isEmpty() || way.length() == 1 && way.charAt(0) >= MORE && way.charAt(0) < EITHER) {
                    return -1;
                }
            }
            return text.length();
        }

        private static void onBy(String way, char sign, Set<String> next) {
            if (way.isEmpty()) {
                return;
            }
            char first = way.charAt(0);
            String rest = way.substring(1);
            if (first < 1000) {
                if (first == sign) {
                    next.add(rest);
                }
                return;
            }
            for (String instead : insteadOf(first)) {
                onBy(instead + rest, sign, next);
            }
        }

        private static List<String> insteadOf(char what) {
            List<String> ways = new ArrayList<>();
            if (what == NUMBER) {
                ways.add("" + DIGIT);
                ways.add("" + DIGIT + DIGIT);
            } else if (what == DIGIT || what == LETTER || what == RELATION) {
                for (char c : (what == DIGIT ? "0123456789" : what == LETTER ? "pkvtnd" : "<=>").toCharArray()) {
                    ways.add("" + c);
                }
            } else if (what < MORE) {
                char more = (char) (what - CLAUSE + MORE);
                ways.add("glad " + NUMBER + " " + EITHER + more);
                ways.add("grim " + NUMBER + " " + EITHER + more);
                ways.add("rest " + NUMBER + more);
            } else if (what < EITHER) {
                ways.add("");
                if (what - MORE > 1) {
                    ways.add(";" + (char) (what - MORE - 1 + CLAUSE));
                }
            } else {
                expression(what, ways);
            }
            return ways;
        }

        private static void expression(char what, List<String> ways) {
            int depth = what % 100;
            char both = (char) (BOTH + depth);
            char one = (char) (ONE + depth);
            if (what < BOTH) {
                ways.add("" + both);
                ways.add(both + "|" + what);
            } else if (what < ONE) {
                ways.add("" + one);
                ways.add(one + "&" + what);
            } else {
                ways.add("" + LETTER + RELATION + NUMBER);
                if (depth < 4) {
                    ways.add("!" + (char) (one + 1));
                    ways.add("(" + (char) (EITHER + depth + 1) + ")");
                }
            }
        }
    }

    /** The document once more, as plainly as can be; it makes new objects wherever that is easier. */
    private static final class Model {
        private static final int[] ABOVE = {-1, 0, 0, 0, 1, 2, 3};

        private static final class Bird {
            int kind, v, letter, tired, flown;
            int[] row = new int[4];

            Bird copy() {
                Bird b = new Bird();
                b.kind = kind;
                b.v = v;
                b.letter = letter;
                b.tired = tired;
                b.flown = flown;
                b.row = row.clone();
                return b;
            }
        }

        private static final class All {
            List<Bird> birds = new ArrayList<>();
            int[] cheer = {5, 5, 5, 5, 5, 5, 5, 5, 5, 5, 5, 5};
            int[] means = {1, 2, 4, 8, 16, 32, 64, 128, 1, 2, 4, 8};
            int known, day;
            String loft = "";
            List<int[]> seen = new ArrayList<>(), plan = new ArrayList<>(), book = new ArrayList<>();

            All copy() {
                All a = new All();
                for (Bird b : birds) {
                    a.birds.add(b.copy());
                }
                a.cheer = cheer.clone();
                a.means = means.clone();
                a.known = known;
                a.day = day;
                a.loft = loft;
                a.seen.addAll(seen);
                a.plan.addAll(plan);
                a.book.addAll(book);
                return a;
            }

            int rest() {
                int rest = 1;
                for (String clause : loft.split(";")) {
                    if (clause.startsWith("rest ")) {
                        rest = Integer.parseInt(clause.substring(5));
                    }
                }
                return rest;
            }

            int sum(int p, int words) {
                int sum = -birds.get(p).tired;
                for (int w = 0; w < 12; w++) {
                    sum += has(words, w) ? cheer[w] - 4 : 0;
                }
                for (String clause : loft.split(";")) {
                    String[] parts = clause.split(" ");
                    if (parts.length == 3 && holds(parts[2], p, words)) {
                        sum += (parts[0].equals("glad") ? 1 : -1) * Integer.parseInt(parts[1]);
                    }
                }
                return sum;
            }

            boolean holds(String e, int p, int words) {
                int depth = 0;
                int or = -1;
                int and = -1;
                for (int i = 0; i < e.length(); i++) {
                    char c = e.charAt(i);
                    depth += c == '(' ? 1 : c == ')' ? -1 : 0;
                    or = depth == 0 && c == '|' ? i : or;
                    and = depth == 0 && c == '&' ? i : and;
                }
                int split = or >= 0 ? or : and;
                if (split >= 0) {
                    boolean left = holds(e.substring(0, split), p, words);
                    boolean right = holds(e.substring(split + 1), p, words);
                    return or >= 0 ? left || right : left && right;
                }
                if (e.charAt(0) == '!') {
                    return !holds(e.substring(1), p, words);
                }
                if (e.charAt(0) == '(') {
                    return holds(e.substring(1, e.length() - 1), p, words);
                }
                Bird b = birds.get(p);
                int n = Integer.parseInt(e.substring(2));
                int is = 0;
                switch (e.charAt(0)) {
                    case 'p': is = p; break;
                    case 'k': is = b.kind; break;
                    case 'v': is = b.v; break;
                    case 't': is = b.tired; break;
                    case 'n': is = Integer.bitCount(words); break;
                    case 'd': is = day % 10; break;
                    default: throw new IllegalStateException(e);
                }
                return e.charAt(1) == '<' ? is < n : e.charAt(1) == '=' ? is == n : is > n;
            }

            int joy(int p, int words) {
                Bird b = birds.get(p);
                int sum = sum(p, words);
                int least = words == 0 ? 0 : 99;
                for (int w = 0; w < 12; w++) {
                    least = has(words, w) ? Math.min(least, cheer[w]) : least;
                }
                int half = sum < 0 ? -(-sum / 2) : sum / 2;
                switch (b.kind) {
                    case 0: return sum;
                    case 1: return sum + b.v;
                    case 2: return half;
                    case 3: return sum - least;
                    case 4: return sum + b.v - 2 * b.tired;
                    case 5: return half + Integer.bitCount(known);
                    default: return sum - least + b.row[Integer.bitCount(words) % 4];
                }
            }

            boolean will(int p) {
                return birds.get(p).letter != 0 && joy(p, birds.get(p).letter) > 0;
            }

            int meaning(int words) {
                int facts = 0;
                for (int w = 0; w < 12; w++) {
                    facts |= has(words, w) ? means[w] : 0;
                }
                return facts;
            }

            void goes() {
                for (int p = 0; p < birds.size(); p++) {
                    Bird b = birds.get(p);
                    if (will(p)) {
                        known |= meaning(b.letter);
                        b.letter = 0;
                        b.tired = Math.min(9, b.tired + 2);
                        b.flown++;
                    } else {
                        b.tired = Math.max(0, b.tired - rest());
                    }
                }
                day++;
            }

            boolean isSo() {
                for (int[] row : seen) {
                    if (joy(row[0], row[1]) > 0 != (row[2] == 1)) {
                        return false;
                    }
                }
                return true;
            }
        }

        private All all = new All();
        private All image = null;
        private final List<String> lofts = new ArrayList<>();
        private String text = "";
        private final List<Integer> trace = new ArrayList<>();
        private final Object[] tapes = new Object[6];

        private static boolean has(int set, int i) {
            return (set & 1 << i) != 0;
        }

        private boolean isBird(int p) {
            return p >= 0 && p < all.birds.size();
        }

        private static boolean in(int n, int from, int to) {
            return from <= n && n <= to;
        }

        public int pigeon(int kind, int v) {
            if (!in(kind, 0, 6)) {
                return -1;
            }
            if (!in(v, 0, 9)) {
                return -2;
            }
            if (all.birds.size() == 6) {
                return -4;
            }
            Bird b = new Bird();
            b.kind = kind;
            b.v = v;
            all.birds.add(b);
            return all.birds.size() - 1;
        }

        public int of(int p, int what) {
            if (!isBird(p) || !in(what, 0, 6)) {
                return -1;
            }
            Bird b = all.birds.get(p);
            int best = -5;
            int most = all.joy(p, b.letter);
            for (int w = 0; w < 12; w++) {
                if (has(b.letter, w) && all.joy(p, b.letter ^ 1 << w) > most) {
                    best = w;
                    most = all.joy(p, b.letter ^ 1 << w);
                }
            }
            return new int[] {b.kind, b.v, b.letter, b.tired, b.flown, all.will(p) ? 1 : 0, best}[what];
        }

        public int joy(int p, int words) {
            return !isBird(p) ? -10001 : !in(words, 0, 4095) ? -10002 : all.joy(p, words);
        }

        public int letter(int p, int words) {
            if (!isBird(p) || !in(words, 0, 4095)) {
                return !isBird(p) ? -1 : -2;
            }
            int was = all.birds.get(p).letter;
            all.birds.get(p).letter = words;
            return was;
        }

        public int tire(int p, int n) {
            if (!isBird(p) || !in(n, 0, 9)) {
                return !isBird(p) ? -1 : -2;
            }
            int was = all.birds.get(p).tired;
            all.birds.get(p).tired = n;
            return was;
        }

        public int phrase(int w, int what, int n) {
            if (!in(w, 0, 11) || !in(what, 0, 1)) {
                return -1;
            }
            if (what == 0 && !in(n, 0, 9) || what == 1 && !in(n, 0, 255)) {
                return -2;
            }
            int was = what == 0 ? all.cheer[w] : all.means[w];
            if (what == 0) {
                all.cheer[w] = n;
            } else {
                all.means[w] = n;
            }
            return was;
        }

        public int row(int p, int part, int n) {
            if (!isBird(p) || !in(part, 0, 3)) {
                return -1;
            }
            if (!in(n, 0, 9)) {
                return -2;
            }
            if (all.birds.get(p).kind != 6) {
                return -3;
            }
            int was = all.birds.get(p).row[part];
            all.birds.get(p).row[part] = n;
            return was;
        }

        public int feed(int sign) {
            if (!in(sign, 0, 127)) {
                return -2;
            }
            if (text.length() == 100) {
                return -4;
            }
            text += (char) sign;
            return text.length();
        }

        public int loft() {
            if (lofts.size() == 6) {
                return -4;
            }
            String read = text;
            text = "";
            int fault = Grammar.faultOf(read);
            if (fault >= 0) {
                return -10 - fault;
            }
            lofts.add(read);
            all.loft = read;
            return lofts.size() - 1;
        }

        public int told(int what) {
            if (in(what, 0, 3)) {
                int willing = 0;
                for (int p = 0; p < all.birds.size(); p++) {
                    willing |= all.will(p) ? 1 << p : 0;
                }
                return new int[] {all.day, all.rest(), all.known, willing}[what];
            }
            if (in(what, 10, 21)) {
                return all.cheer[what - 10];
            }
            if (in(what, 30, 41)) {
                return all.means[what - 30];
            }
            if (in(what, 50, 57)) {
                for (int n = 0; n <= 60; n++) {
                    if (has(on(n, 0), what - 50)) {
                        return n;
                    }
                }
                return -5;
            }
            if (in(what, 60, 71)) {
                int bits = 0;
                for (int c = 0; c <= 9; c++) {
                    All other = all.copy();
                    other.cheer[what - 60] = c;
                    bits |= other.isSo() ? 1 << c : 0;
                }
                return bits;
            }
            return -1;
        }

        public int pass(int n) {
            if (!in(n, 0, 60)) {
                return -2;
            }
            if (all.day + n > 9999) {
                return -3;
            }
            for (int i = 0; i < n; i++) {
                all.goes();
            }
            return all.day;
        }

        public int on(int n, int what) {
            boolean isTired = in(what, 10, 15) && isBird(what - 10);
            boolean isLetter = in(what, 20, 25) && isBird(what - 20);
            if (what != 0 && !isTired && !isLetter) {
                return -1;
            }
            if (!in(n, 0, 60)) {
                return -2;
            }
            All then = all.copy();
            for (int i = 0; i < n; i++) {
                then.goes();
            }
            return what == 0 ? then.known : isTired ? then.birds.get(what - 10).tired : then.birds.get(what - 20).letter;
        }

        public int wording(int p, int facts) {
            if (!isBird(p) || !in(facts, 0, 255)) {
                return !isBird(p) ? -1 : -2;
            }
            for (int n = 0; n <= 12; n++) {
                for (int set = 0; set < 4096; set++) {
                    if (Integer.bitCount(set) == n && (all.meaning(set) & facts) == facts && all.joy(p, set) > 0) {
                        return set;
                    }
                }
            }
            return -5;
        }

        public int birds(int facts) {
            if (!in(facts, 0, 255)) {
                return -2;
            }
            int best = -5;
            for (int set = 63; set >= 0; set--) {
                int have = all.known;
                boolean isFit = set < 1 << all.birds.size();
                for (int p = 0; p < all.birds.size() && isFit; p++) {
                    isFit = !has(set, p) || all.will(p);
                    have |= has(set, p) ? all.meaning(all.birds.get(p).letter) : 0;
                }
                if (isFit && (have & facts) == facts && (best < 0 || Integer.bitCount(set) <= Integer.bitCount(best))) {
                    best = set;
                }
            }
            return best;
        }

        public int see(int p, int words, boolean isFlown) {
            if (p == -1) {
                all.seen.clear();
                return 0;
            }
            if (!isBird(p) || !in(words, 0, 4095)) {
                return !isBird(p) ? -1 : -2;
            }
            return comes(all.seen, 5, p, words, isFlown ? 1 : 0);
        }

        private static int comes(List<int[]> rows, int most, int... row) {
            if (rows.size() == most) {
                return -4;
            }
            rows.add(row);
            return rows.size();
        }

        public int can(int p, int what) {
            if (!isBird(p) || !in(what, 0, 1)) {
                return -1;
            }
            List<Integer> fit = new ArrayList<>();
            for (int v = 0; v <= 9; v++) {
                All other = all.copy();
                other.birds.get(p).v = v;
                if (other.isSo()) {
                    fit.add(v);
                }
            }
            return what == 0 ? fit.size() : fit.isEmpty() ? -5 : fit.get(0);
        }

        private static long fraction(long above, long below, int part) {
            long gcd = java.math.BigInteger.valueOf(above).gcd(java.math.BigInteger.valueOf(below)).longValue();
            return part == 0 ? above / gcd : below / gcd;
        }

        public long odds(int p, int part) {
            if (!isBird(p) || !in(part, 0, 1)) {
                return Long.MIN_VALUE;
            }
            int good = 0;
            for (int w = 0; w < 12; w++) {
                good += all.joy(p, all.birds.get(p).letter | 1 << w) > 0 ? 1 : 0;
            }
            return fraction(good, 12, part);
        }

        public long mean(int part) {
            int sum = 0;
            int n = 0;
            for (int p = 0; p < all.birds.size(); p++) {
                if (all.birds.get(p).letter != 0) {
                    sum += all.joy(p, all.birds.get(p).letter);
                    n++;
                }
            }
            return !in(part, 0, 1) || n == 0 ? Long.MIN_VALUE : fraction(sum, n, part);
        }

        public int plan(int what, int n) {
            if (what == -1) {
                all.plan.clear();
                return 0;
            }
            if (!in(what, 0, 3) || in(what, 1, 2) && !isBird(n) || what == 3 && !in(n, 0, 11)) {
                return -1;
            }
            return comes(all.plan, 10, what, n);
        }

        public int ends(int what) {
            if (!in(what, 0, 1)) {
                return -1;
            }
            All then = all.copy();
            for (int[] row : all.plan) {
                if (row[0] == 0) {
                    then.goes();
                } else if (row[0] == 1) {
                    then.birds.get(row[1]).letter = 0;
                } else if (row[0] == 2) {
                    then.birds.get(row[1]).tired = 0;
                } else {
                    then.cheer[row[1]] = 9;
                }
            }
            int flown = 0;
            for (Bird b : then.birds) {
                flown += b.flown;
            }
            return what == 0 ? then.known : flown;
        }

        public int book(int w, int cheer) {
            if (w == -1) {
                all.book.clear();
                return 0;
            }
            if (!in(w, 0, 11) || !in(cheer, 0, 9)) {
                return !in(w, 0, 11) ? -1 : -2;
            }
            return comes(all.book, 8, w, cheer);
        }

        public int looked() {
            for (int[] row : all.book) {
                if (all.cheer[row[0]] != row[1]) {
                    return all.book.indexOf(row);
                }
            }
            return -5;
        }

        public int judge(int t, int i) {
            if (!in(t, 0, 5)) {
                return -1;
            }
            if (tapes[t] == null) {
                return 100;
            }
            if (!(tapes[t] instanceof int[])) {
                return -12;
            }
            int[] row = (int[]) tapes[t];
            if (i < 0) {
                return 100;
            }
            int w = 0;
            for (long at = i; w < 12; at++, w++) {
                if (at >= row.length) {
                    return 100 + w;
                }
                if (row[(int) at] != all.cheer[w]) {
                    return w;
                }
            }
            return -5;
        }

        public int image() {
            image = all.copy();
            return all.birds.size();
        }

        public int undo() {
            if (image == null) {
                return -3;
            }
            all = image.copy();
            return all.birds.size();
        }

        public int act(int p, int act, int x) {
            trace.clear();
            if (!isBird(p) || !in(act, 0, 2)) {
                return 0;
            }
            int kind = all.birds.get(p).kind;
            return body(p, kind, act, x);
        }

        /** The body for an act of the KIND told or the next one above it that has one. */
        private int body(int p, int kind, int act, int x) {
            int i = p;
            int v = all.birds.get(p).v;
            int own = all.birds.get(p).kind;
            String which = kind + "" + act;
            int up = ABOVE[kind];
            switch (which) {
                case "00": trace.add(10); return x + i;
                case "01": trace.add(11); return body(p, own, 0, x) - v;
                case "02": trace.add(12); return body(p, own, 1, x) * 2;
                case "11": trace.add(20); return body(p, up, 1, x) ^ 6;
                case "20": trace.add(30); return body(p, up, 0, x * 3);
                case "32": { trace.add(40); int first = body(p, up, 2, x); return first + body(p, own, 1, 1); }
                case "40": trace.add(50); return -body(p, up, 0, x);
                case "41": trace.add(51); return body(p, up, 1, x + 1);
                case "52": trace.add(60); return body(p, up, 2, x - i);
                case "61": { trace.add(70); int first = body(p, up, 1, x); return first + body(p, up, 0, 2); }
                case "60": trace.add(71); return body(p, up, 0, x) ^ v;
                default: return body(p, up, act, x);
            }
        }

        public int trace(int i) {
            return i >= 0 && i < Math.min(20, trace.size()) ? trace.get(i) : -1;
        }

        public int taken(int p, int k) {
            if (!in(k, 0, 6)) {
                return -2;
            }
            if (!isBird(p)) {
                return -11;
            }
            int kind = all.birds.get(p).kind;
            for (int up = kind; up >= 0; up = ABOVE[up]) {
                if (up == k) {
                    return kind;
                }
            }
            return -12;
        }

        public int count(int what) {
            if (!in(what, 0, 6)) {
                return -2;
            }
            return new int[] {all.birds.size(), lofts.size(), all.seen.size(), all.plan.size(), all.book.size(),
                text.length(), trace.size()}[what];
        }

        public int tape(int t, int sort, int n) {
            if (!in(t, 0, 5)) {
                return -1;
            }
            if (sort == -1) {
                tapes[t] = null;
                return 1;
            }
            if (!in(sort, 0, 4) || n > 60) {
                return -2;
            }
            if (n < 0) {
                return -14;
            }
            tapes[t] = sort == 0 ? new byte[n] : sort == 1 ? new short[n] : sort == 2 ? new int[n]
                : sort == 3 ? new long[n] : new boolean[n];
            return 1;
        }

        private int lengthOf(int t) {
            return java.lang.reflect.Array.getLength(tapes[t]);
        }

        public int item(int t, int i, long v) {
            if (!in(t, 0, 5)) {
                return -1;
            }
            if (tapes[t] == null) {
                return -11;
            }
            if (!in(i, 0, lengthOf(t) - 1)) {
                return -13;
            }
            if (tapes[t] instanceof byte[] row) {
                row[i] = (byte) v;
            } else if (tapes[t] instanceof short[] row) {
                row[i] = (short) v;
            } else if (tapes[t] instanceof int[] row) {
                row[i] = (int) v;
            } else if (tapes[t] instanceof long[] row) {
                row[i] = v;
            } else if (tapes[t] instanceof boolean[] row) {
                row[i] = v != 0;
            }
            return 1;
        }

        public long read(int t, int i) {
            if (!in(t, 0, 5) || tapes[t] == null || !in(i, 0, lengthOf(t) - 1)) {
                return Long.MIN_VALUE;
            }
            Object is = java.lang.reflect.Array.get(tapes[t], i);
            return is instanceof Boolean b ? (b ? 1 : 0) : ((Number) is).longValue();
        }

        public int shift(int t, int i, int other, int j, int n) {
            if (!in(t, 0, 5) || !in(other, 0, 5)) {
                return -1;
            }
            if (tapes[t] == null || tapes[other] == null) {
                return -11;
            }
            if (tapes[t].getClass() != tapes[other].getClass()) {
                return -12;
            }
            try {
                System.arraycopy(tapes[t], i, tapes[other], j, n);
            } catch (IndexOutOfBoundsException e) {
                return -13;
            }
            return n;
        }
    }
}
