/** The promises 1 to 34, one method each: ordinary inputs, the edges that the document names, wrong inputs. */
public final class PromiseTest {
    private static final long NO = Long.MIN_VALUE;
    private static final int LOW = Integer.MIN_VALUE, HIGH = Integer.MAX_VALUE;
    private static int wrong = 0;
    private static int promise = 0;

    private static void due(String call, long got, long want) {
        if (got != want) {
            wrong++;
            System.out.println("promise " + promise + ": " + call + " answered " + got + ", due is " + want);
        }
    }

    private static void fed(GoodNewsPigeons x, String text) {
        for (int i = 0; i < text.length(); i++) {
            x.feed(text.charAt(i));
        }
    }

    private static int lofted(GoodNewsPigeons x, String text) {
        fed(x, text);
        return x.loft();
    }

    /** An object with one PIGEON of each KIND 0 .. 5, with v 6, 5, 3, 7, 2, 4. */
    private static GoodNewsPigeons six() {
        GoodNewsPigeons x = new GoodNewsPigeons();
        int[] vs = {6, 5, 3, 7, 2, 4};
        for (int k = 0; k < 6; k++) {
            x.pigeon(k, vs[k]);
        }
        return x;
    }

    /** An object with one PIGEON of this KIND and v. */
    private static GoodNewsPigeons one(int kind, int v) {
        GoodNewsPigeons x = new GoodNewsPigeons();
        x.pigeon(kind, v);
        return x;
    }

    private static void newObject() {
        GoodNewsPigeons x = new GoodNewsPigeons();
        for (int what = 0; what <= 6; what++) {
            due("count(" + what + ")", x.count(what), 0);
        }
        due("told(0)", x.told(0), 0);
        due("told(1)", x.told(1), 1);
        due("told(2)", x.told(2), 0);
        due("told(3)", x.told(3), 0);
        for (int w = 0; w < 12; w++) {
            due("CHEER of " + w, x.told(10 + w), 5);
            due("MEANS of " + w, x.told(30 + w), 1 << w % 8);
            due("CHEERS of " + w, x.told(60 + w), 1023);
        }
        for (int f = 0; f < 8; f++) {
            due("COMES of " + f, x.told(50 + f), -5);
        }
        due("of(0, 0)", x.of(0, 0), -1);
        due("undo()", x.undo(), -3);
        due("trace(0)", x.trace(0), -1);
        for (int t = 0; t < 6; t++) {
            due("item of a TAPE", x.item(t, 0, 1), -11);
        }
        due("NONE", GoodNewsPigeons.NONE, -1);
        due("BAD", GoodNewsPigeons.BAD, -2);
        due("STATE", GoodNewsPigeons.STATE, -3);
        due("FULL", GoodNewsPigeons.FULL, -4);
        due("NO", GoodNewsPigeons.NO, NO);
    }

    private static void pigeon() {
        GoodNewsPigeons x = new GoodNewsPigeons();
        due("pigeon(-1, 10)", x.pigeon(-1, 10), -1);
        due("pigeon(7, 0)", x.pigeon(7, 0), -1);
        due("pigeon(0, -1)", x.pigeon(0, -1), -2);
        due("pigeon(6, 10)", x.pigeon(6, 10), -2);
        due("count(0)", x.count(0), 0);
        for (int p = 0; p < 6; p++) {
            due("pigeon " + p, x.pigeon(6 - p, p + 4), p);
            due("its KIND", x.of(p, 0), 6 - p);
            due("its v", x.of(p, 1), p + 4);
            due("its LETTER", x.of(p, 2), 0);
            due("its TIRED", x.of(p, 3), 0);
            due("its FLOWN", x.of(p, 4), 0);
        }
        due("the 7th", x.pigeon(0, 0), -4);
        due("the 7th of no KIND", x.pigeon(7, 0), -1);
        due("the 7th with a bad v", x.pigeon(0, 10), -2);
        due("count(0)", x.count(0), 6);
    }

    private static void newcomerAfterUndo() {
        GoodNewsPigeons x = new GoodNewsPigeons();
        x.image();
        x.pigeon(6, 9);
        x.letter(0, 32);
        x.tire(0, 9);
        x.row(0, 0, 9);
        x.undo();
        due("pigeon(6, 1)", x.pigeon(6, 1), 0);
        due("of(0, 1)", x.of(0, 1), 1);
        due("of(0, 2)", x.of(0, 2), 0);
        due("of(0, 3)", x.of(0, 3), 0);
        due("joy(0, 0)", x.joy(0, 0), 0);
        x.letter(0, 3);
        x.pass(1);
        x.undo();
        x.pigeon(6, 1);
        due("of(0, 4)", x.of(0, 4), 0);
    }

    private static void of() {
        GoodNewsPigeons x = one(2, 3);
        x.phrase(4, 0, 0);
        x.phrase(7, 0, 0);
        due("of(0, 5) without a LETTER", x.of(0, 5), 0);
        due("of(0, 6) without a LETTER", x.of(0, 6), -5);
        x.letter(0, 0b10010011);
        due("of(0, 0)", x.of(0, 0), 2);
        due("of(0, 1)", x.of(0, 1), 3);
        due("of(0, 2)", x.of(0, 2), 147);
        due("of(0, 3)", x.of(0, 3), 0);
        due("of(0, 5), JOY -3", x.of(0, 5), 0);
        due("of(0, 6), 4 and 7 alike", x.of(0, 6), 4);
        x.letter(0, 3);
        due("of(0, 5), JOY 1", x.of(0, 5), 1);
        due("of(0, 6), none makes it greater", x.of(0, 6), -5);
        x.letter(0, 1 << 4);
        due("of(0, 6), its only WORD", x.of(0, 6), 4);
        x.letter(0, 3);
        x.phrase(0, 0, 0);
        due("of(0, 6), 0 is to go", x.of(0, 6), 0);
        x.phrase(0, 0, 5);
        x.letter(0, 1);
        due("of(0, 5), JOY 0", x.of(0, 5), 0);
        due("of(0, 6), as great without", x.of(0, 6), -5);
        x.letter(0, 7);
        x.pass(1);
        due("of(0, 4)", x.of(0, 4), 1);
        due("of(0, 2) flown", x.of(0, 2), 0);
        due("of(0, 3) flown", x.of(0, 3), 2);
        due("of(0, 7)", x.of(0, 7), -1);
        due("of(0, -1)", x.of(0, -1), -1);
        due("of(1, 0)", x.of(1, 0), -1);
        due("of(-1, 0)", x.of(-1, 0), -1);
        due("of(LOW, HIGH)", x.of(LOW, HIGH), -1);
        GoodNewsPigeons y = one(0, 0);
        lofted(y, "glad 1 p=0");
        due("joy(0, 0), JOY 1", y.joy(0, 0), 1);
        due("of(0, 5) without a LETTER", y.of(0, 5), 0);
        due("told(3) without a LETTER", y.told(3), 0);
    }

    private static void joy() {
        GoodNewsPigeons x = six();
        x.pigeon(6, 0);
        int[] cheers = {9, 2, 7, 5, 5, 0, 5, 5, 5, 5, 5, 8};
        for (int w = 0; w < 12; w++) {
            x.phrase(w, 0, cheers[w]);
        }
        int[] sets = {0, 1, 7, 32, 2053, 4095};
        int[][] dues = {{0, 5, 6, -4, 12, 13}, {5, 10, 11, 1, 17, 18}, {0, 2, 3, -2, 6, 6},
            {0, -4, 4, -4, 5, 13}, {2, 7, 8, -2, 14, 15}, {0, 2, 3, -2, 6, 6}};
        for (int p = 0; p < 6; p++) {
            for (int s = 0; s < 6; s++) {
                due("joy(" + p + ", " + sets[s] + ")", x.joy(p, sets[s]), dues[p][s]);
            }
            x.tire(p, 9);
        }
        // TIRED 9: SUM is 9 less, FAST 18 less again; -4 - 9 halves to -6, 6 - 9 to -1, 9 - 9 - 4 to -2.
        due("PIGEON, tired", x.joy(0, 32), -13);
        due("FANCY, tired", x.joy(1, 32), -8);
        due("DULL, tired", x.joy(2, 32), -6);
        due("DULL, tired", x.joy(2, 7), -1);
        due("KEEN, tired", x.joy(3, 1), -13);
        due("FAST, tired", x.joy(4, 1), -20);
        due("OLD, tired", x.joy(5, 32), -6);
        x.tire(0, 0);
        x.letter(0, 1 | 1 << 9 | 1 << 10);
        x.pass(1);
        due("told(2)", x.told(2), 7);
        x.tire(5, 9);
        due("OLD, 3 FACTS KNOWN", x.joy(5, 32), -3);
        due("joy(6, 0)", x.joy(6, 0), -10001);
        due("joy(-1, 4096)", x.joy(-1, 4096), -10001);
        due("joy(0, 4096)", x.joy(0, 4096), -10002);
        due("joy(0, -1)", x.joy(0, -1), -10002);
        due("joy(0, LOW)", x.joy(0, LOW), -10002);
    }

    private static void joyOfTold() {
        GoodNewsPigeons x = one(6, 8);
        for (int part = 0; part < 4; part++) {
            due("row(0, part, n)", x.row(0, part, part * 2 + 1), 0);
        }
        due("joy(0, 0)", x.joy(0, 0), 1);
        due("joy(0, 2)", x.joy(0, 2), 1 - 5 + 3);
        due("joy(0, 3)", x.joy(0, 3), 2 - 5 + 5);
        due("joy(0, 7)", x.joy(0, 7), 3 - 5 + 7);
        due("joy(0, 15)", x.joy(0, 15), 4 - 5 + 1);
        due("joy(0, 4095)", x.joy(0, 4095), 12 - 5 + 1);
        x.phrase(11, 0, 9);
        due("joy(0, 2048)", x.joy(0, 2048), 5 - 9 + 3);
        due("joy(0, 2049)", x.joy(0, 2049), 6 - 5 + 5);
        x.tire(0, 4);
        due("joy(0, 0) tired", x.joy(0, 0), -3);
    }

    private static void joyByLoft() {
        GoodNewsPigeons x = new GoodNewsPigeons();
        x.pigeon(2, 1);
        x.pigeon(0, 7);
        due("loft", lofted(x, "glad 10 p=1&k=0;grim 3 v>6|t>0;glad 1 n<2;glad 20 d=0;rest 7"), 0);
        due("joy(0, 0)", x.joy(0, 0), 10);
        due("joy(1, 0)", x.joy(1, 0), 28);
        due("joy(1, 3)", x.joy(1, 3), 29);
        due("joy(1, 1)", x.joy(1, 1), 29);
        x.tire(0, 2);
        due("joy(0, 0), (21 - 3 - 2) / 2", x.joy(0, 0), 8);
        x.pass(1);
        due("joy(1, 0) by day 1", x.joy(1, 0), 8);
        x.pass(9);
        due("joy(1, 0) by day 10", x.joy(1, 0), 28);
        due("loft", lofted(x, "grim 99 p<9;grim 99 p<10"), 1);
        due("joy(1, 0) of the newest", x.joy(1, 0), -198);
    }

    private static void joyByBrackets() {
        GoodNewsPigeons x = one(0, 5);
        due("| behind &", jump(x, "v=0&v=1|v=5"), 1);
        due("| ahead of &", jump(x, "v=5|v=1&v=0"), 1);
        due("& in brackets", jump(x, "(v=5|v=1)&v=0"), 0);
        GoodNewsPigeons y = one(0, 5);
        due("! of the first alone", jump(y, "!v=0&v=0"), 0);
        due("! of brackets", jump(y, "!(v=0&v=0)"), 1);
        due("!! and brackets", jump(y, "!!(!(v=6))"), 1);
        due("a long row", jump(y, "v=1|v=2|v=3|v=4|v=5|v=6|v=7"), 1);
        due("a long row", jump(y, "v<6&v>4&v<7&v>3&v<8&v=6&v=5"), 0);
        due("four deep, side by side", jump(y, "((((v=5))))&((((v=5))))&!!!!v=5"), 1);
        GoodNewsPigeons z = one(0, 5);
        due("two digits", jump(z, "v<50"), 1);
        due("two digits", jump(z, "v=05"), 1);
        due("deep, much waits", jump(z, "v=1|v=5&(v=1|v=5&(v=1|v=5&(v=1|v=5&(v=1|v=5&v<9))))"), 1);
        due("deep, much waits", jump(z, "v=5|v=5&(v=1|v=5&(v=1|v=5&(v=1|v=5&(v=1|v=5&v<5))))"), 1);
        due("deep, much waits", jump(z, "v=1|v=5&(v=1|v=5&(v=1|v=5&(v=1|v=5&(v=1|v=5&v<5))))"), 0);
    }

    /** Each letter with each relation, with numbers about the one that it stands for. */
    private static void joyByTests() {
        int[] stands = {1, 3, 7, 2, 4, 6};
        for (int letter = 0; letter < 6; letter++) {
            int is = stands[letter];
            int[] numbers = {0, is - 1, is, is + 1, is + 10, 99};
            for (int n : numbers) {
                GoodNewsPigeons x = one(0, 0);
                x.pigeon(3, 7);
                x.pass(36);
                x.tire(1, 2);
                String[] tests = {"pkvtnd".charAt(letter) + "<" + n, "pkvtnd".charAt(letter) + "=" + n,
                    "pkvtnd".charAt(letter) + ">" + n};
                for (int t = 0; t < 3; t++) {
                    boolean isSo = t == 0 ? is < n : t == 1 ? is == n : is > n;
                    due("loft", lofted(x, "glad 50 " + tests[t]), t);
                    due("joy(1, 15) by " + tests[t], x.joy(1, 15), (isSo ? 50 : 0) + 4 - 2 - 5);
                }
            }
        }
        GoodNewsPigeons y = one(0, 5);
        due("no number is below 0", jump(y, "p=0&p<0"), 0);
        due("no number is below 0", jump(y, "p<0&p=0"), 0);
        due("no number is below 0", jump(y, "p<0|p=0"), 1);
        due("no number is below 0", jump(y, "p=0&!p<0"), 1);
        due("n of the empty set", jump(y, "n<1"), 1);
    }

    private static long jump(GoodNewsPigeons x, String test) {
        lofted(x, "glad 1 " + test);
        return x.joy(0, 0);
    }

    private static void letter() {
        GoodNewsPigeons x = one(0, 0);
        due("letter(0, 4095)", x.letter(0, 4095), 0);
        due("letter(0, 5)", x.letter(0, 5), 4095);
        due("letter(0, 4096)", x.letter(0, 4096), -2);
        due("letter(0, -1)", x.letter(0, -1), -2);
        due("letter(1, -1)", x.letter(1, -1), -1);
        due("letter(-1, 0)", x.letter(-1, 0), -1);
        due("letter(0, 0)", x.letter(0, 0), 5);
        due("of(0, 2)", x.of(0, 2), 0);
        due("of(0, 5)", x.of(0, 5), 0);
        due("mean(1)", x.mean(1), NO);
    }

    private static void tire() {
        GoodNewsPigeons x = one(0, 0);
        due("tire(0, 9)", x.tire(0, 9), 0);
        due("tire(0, 10)", x.tire(0, 10), -2);
        due("tire(0, -1)", x.tire(0, -1), -2);
        due("tire(1, 10)", x.tire(1, 10), -1);
        due("tire(-1, 0)", x.tire(-1, 0), -1);
        due("tire(0, 3)", x.tire(0, 3), 9);
        due("of(0, 3)", x.of(0, 3), 3);
        due("joy(0, 0)", x.joy(0, 0), -3);
    }

    private static void phrase() {
        GoodNewsPigeons x = new GoodNewsPigeons();
        due("phrase(0, 0, 9)", x.phrase(0, 0, 9), 5);
        due("phrase(0, 0, 0)", x.phrase(0, 0, 0), 9);
        due("phrase(11, 1, 255)", x.phrase(11, 1, 255), 8);
        due("phrase(11, 1, 0)", x.phrase(11, 1, 0), 255);
        due("phrase(0, 0, 10)", x.phrase(0, 0, 10), -2);
        due("phrase(0, 0, -1)", x.phrase(0, 0, -1), -2);
        due("phrase(0, 1, 256)", x.phrase(0, 1, 256), -2);
        due("phrase(0, 1, -1)", x.phrase(0, 1, -1), -2);
        due("phrase(12, 0, 10)", x.phrase(12, 0, 10), -1);
        due("phrase(-1, 1, 0)", x.phrase(-1, 1, 0), -1);
        due("phrase(0, 2, 99)", x.phrase(0, 2, 99), -1);
        due("phrase(0, -1, 0)", x.phrase(0, -1, 0), -1);
        due("told(10)", x.told(10), 0);
        due("told(30)", x.told(30), 1);
        due("told(21)", x.told(21), 5);
        due("told(41)", x.told(41), 0);
    }

    private static void row() {
        GoodNewsPigeons x = one(6, 1);
        x.pigeon(3, 1);
        x.pigeon(6, 1);
        due("row(0, 0, 9)", x.row(0, 0, 9), 0);
        due("row(0, 3, 4)", x.row(0, 3, 4), 0);
        due("row(2, 3, 7)", x.row(2, 3, 7), 0);
        due("row(0, 3, 5)", x.row(0, 3, 5), 4);
        due("row(0, 0, 0)", x.row(0, 0, 0), 9);
        due("row(0, 4, 0)", x.row(0, 4, 0), -1);
        due("row(0, -1, 0)", x.row(0, -1, 0), -1);
        due("row(3, 0, 0)", x.row(3, 0, 0), -1);
        due("row(-1, 0, 0)", x.row(-1, 0, 0), -1);
        due("row(1, 4, 10)", x.row(1, 4, 10), -1);
        due("row(1, 0, 10)", x.row(1, 0, 10), -2);
        due("row(0, 0, -1)", x.row(0, 0, -1), -2);
        due("row(1, 0, 1)", x.row(1, 0, 1), -3);
        due("joy(2, 7)", x.joy(2, 7), 3 - 5 + 7);
        due("joy(1, 7)", x.joy(1, 7), 3 - 5);
    }

    private static void feed() {
        GoodNewsPigeons x = new GoodNewsPigeons();
        due("feed(-1)", x.feed(-1), -2);
        due("feed(128)", x.feed(128), -2);
        for (int i = 1; i <= 100; i++) {
            due("feed", x.feed(i % 2 == 0 ? 0 : 127), i);
        }
        due("the 101st", x.feed(0), -4);
        due("a bad 101st", x.feed(128), -2);
        due("count(5)", x.count(5), 100);
        due("loft()", x.loft(), -10);
        due("count(5)", x.count(5), 0);
        due("feed(1)", x.feed(1), 1);
    }

    private static void loft() {
        GoodNewsPigeons x = one(0, 0);
        String full = "glad 1 p=0";
        while (full.length() <= 96) {
            full = full + "|p=0";
        }
        due("loft of 98", lofted(x, full), 0);
        due("joy(0, 0)", x.joy(0, 0), 1);
        for (int i = 1; i < 6; i++) {
            due("loft", lofted(x, "rest " + i), i);
            due("count(1)", x.count(1), i + 1);
        }
        due("told(1)", x.told(1), 5);
        fed(x, "bad");
        due("the 7th", x.loft(), -4);
        due("count(5)", x.count(5), 3);
        due("the 7th", x.loft(), -4);
        due("feed", x.feed(1), 4);
        due("told(1)", x.told(1), 5);
    }

    private static void loftHoldsOn() {
        GoodNewsPigeons x = one(0, 0);
        due("loft", lofted(x, "glad 3 p=0;rest 4"), 0);
        due("a FAULT", lofted(x, "grim 9 p=0;rest 9;"), -28);
        for (int i = 0; i < 3; i++) {
            String half = "glad 9 p=0|p=0|p=0|p=0|p=0|p=0|p=0|p=0|p=0|p=0";
            due("a FAULT", lofted(x, half + ";" + half + "|"), -10 - 94);
        }
        due("joy(0, 0)", x.joy(0, 0), 3);
        due("told(1)", x.told(1), 4);
        due("count(1)", x.count(1), 1);
        due("count(5)", x.count(5), 0);
        due("loft", lofted(x, "grim 2 p=1|p=0"), 1);
        due("joy(0, 0)", x.joy(0, 0), -2);
        due("told(1)", x.told(1), 1);
    }

    private static void faults() {
        Object[][] texts = {{"", 0}, {"g", 1}, {"x", 0}, {"gl", 2}, {"glue", 2}, {"gr", 2}, {"grin", 3}, {"ga", 1},
            {"glad", 4}, {"glad ", 5}, {"glad  1", 5}, {"glad 1", 6}, {"glad 1 ", 7}, {"glad 123", 7}, {"glad 12  ", 8},
            {"glad 1;", 6}, {"glad 1 q=1", 7}, {"glad 1 p", 8}, {"glad 1 p!1", 8}, {"glad 1 p=", 9}, {"glad 1 p=x", 9},
            {"glad 1 p=123", 11}, {"glad 1 p=1&", 11}, {"glad 1 p=1|", 11}, {"glad 1 p=1||", 11}, {"glad 1 p=1 ", 10},
            {"glad 1 (p=1", 11}, {"glad 1 (p=1;", 11}, {"glad 1 p=1)", 10}, {"glad 1 ()", 8}, {"glad 1 (p=1))", 12},
            {"glad 1 !", 8}, {"glad 1 !!!!!p=1", 11}, {"glad 1 (((((p=1", 11}, {"glad 1 (!(!(p=1", 11},
            {"glad 1 !(!(!", 11}, {"glad 1 !!!(p=1&!p=1)", 15}, {"glad 1 ((((p=1))))&(((((", 23}, {"glad -1 p=1", 5},
            {"rest", 4}, {"rest ", 5}, {"rest 1 p=1", 6}, {"rest 1;", 7}, {"rest 1;;", 7}, {"rest 123", 7}, {"reed", 2},
            {"rest1", 4}, {"re1", 2}, {"glad1 p=1", 4}, {"gla1 p=1", 3}, {"grim1 p=1", 4}, {"glad 1p=1", 6},
            {"glad 1 =1", 7}, {"glad 1 1", 7}, {"glad 1 p1", 8}, {"glad 1 p==1", 9}, {"glad 1 p1=", 8}, {"Rest 1", 0}, {" rest 1", 0}, {"rest 1; rest 1", 7}, {"rest 1 ", 6}, {"grim 1 k=1;rest", 15},
            {"rest 1;rest 1;rest 1;rest 1;rest 1;rest 1;rest 1;rest 1;rest 1;rest 1;", 69},
            {"rest 1;rest 1;rest 1;rest 1;rest 1;rest 1;rest 1;rest 1;rest 1;rest 1;rest 1", 69}};
        for (Object[] row : texts) {
            GoodNewsPigeons x = new GoodNewsPigeons();
            due("loft of '" + row[0] + "'", lofted(x, (String) row[0]), -10 - (Integer) row[1]);
        }
        String[] good = {"rest 0", "rest 99", "glad 0 p=1", "grim 99 d>99", "glad 1 !!!!p=1", "glad 1 ((((p=1))))",
            "glad 1 (!(!p=1))", "glad 1 !(p=1)&!(p<1)|!(t>1)", "rest 1;rest 2;glad 1 n=1;grim 1 k=1&v=1;rest 3",
            "rest 1;rest 1;rest 1;rest 1;rest 1;rest 1;rest 1;rest 1;rest 1;rest 1"};
        for (String text : good) {
            GoodNewsPigeons x = new GoodNewsPigeons();
            due("loft of '" + text + "'", lofted(x, text), 0);
        }
    }

    private static void told() {
        GoodNewsPigeons x = six();
        x.phrase(3, 0, 8);
        x.phrase(11, 1, 129);
        x.letter(1, 2048);
        x.letter(4, 8);
        x.tire(4, 9);
        x.letter(5, 4);
        due("told(3)", x.told(3), 2);
        due("told(13)", x.told(13), 8);
        due("told(41)", x.told(41), 129);
        due("told(50)", x.told(50), 1);
        due("told(57)", x.told(57), 1);
        due("told(53), TIRED 1 behind 8", x.told(53), 9);
        due("told(52), OLD with 2 FACTS", x.told(52), 1);
        due("told(51)", x.told(51), -5);
        x.pass(2);
        due("told(0)", x.told(0), 2);
        due("told(2)", x.told(2), 133);
        due("told(50)", x.told(50), 0);
        due("told(53)", x.told(53), 7);
        due("loft", lofted(x, "rest 4;glad 1 p=9;rest 12"), 0);
        due("told(1)", x.told(1), 12);
        int[] none = {-1, 4, 9, 22, 29, 42, 49, 58, 59, 72, 100, LOW, HIGH};
        for (int what : none) {
            due("told(" + what + ")", x.told(what), -1);
        }
    }

    /** COMES at the end of its 60 DAYS: the LOFT keeps the one PIGEON down till DAY modulo 10 is 9. */
    private static void comesLate() {
        GoodNewsPigeons x = one(0, 0);
        x.pigeon(0, 0);
        lofted(x, "grim 50 d<9;rest 0");
        x.letter(0, 1);
        x.letter(1, 2);
        x.tire(1, 9);
        due("told(50)", x.told(50), 10);
        due("told(51)", x.told(51), -5);
        x.pass(5);
        due("told(50)", x.told(50), 5);
        due("told(0)", x.told(0), 5);
        due("of(0, 2)", x.of(0, 2), 1);
        comesLast();
        GoodNewsPigeons y = one(0, 0);
        lofted(y, "grim 99 p=0;grim 99 p=0;rest 0");
        y.letter(0, 4095);
        due("told(50) never", y.told(50), -5);
    }

    /** Six OLD ones, each waits for a FACT that the one behind it brings when DAY modulo 10 is 9. */
    private static void comesLast() {
        GoodNewsPigeons x = new GoodNewsPigeons();
        int[] letters = {1 | 1 << 8, 2 | 1 << 9, 4, 8, 16, 32};
        int[] cheers = {0, 0, 0, 2, 4, 6, 5, 5, 0, 2};
        for (int w = 0; w < 10; w++) {
            x.phrase(w, 0, cheers[w]);
        }
        for (int p = 0; p < 6; p++) {
            x.pigeon(5, 0);
            x.letter(p, letters[p]);
        }
        lofted(x, "grim 90 d<9");
        for (int f = 0; f < 6; f++) {
            due("COMES of " + f, x.told(50 + f), 60 - 10 * f);
        }
        due("on(59, 0)", x.on(59, 0), 62);
        due("on(60, 0)", x.on(60, 0), 63);
        x.pass(9);
        due("COMES of 0", x.told(50), 51);
        x.tire(5, 1);
        due("COMES of 0, the 61st is too late", x.told(50), -5);
        due("COMES of 1", x.told(51), 51);
    }

    private static void cheers() {
        GoodNewsPigeons x = one(0, 0);
        x.pigeon(3, 0);
        x.see(0, 3, true);
        // SUM is the CHEER of WORD 0 less 4, and 1: above 0 from 4 on.
        due("told(60)", x.told(60), 0b1111110000);
        due("told(62)", x.told(62), 1023);
        x.see(0, 1, false);
        due("told(60)", x.told(60), 0b0000010000);
        due("told(61), WORD 0 alone flies", x.told(61), 0);
        x.phrase(0, 0, 0);
        due("told(61), 9 alone", x.told(61), 512);
        x.phrase(0, 0, 3);
        due("told(61)", x.told(61), 0b1111000000 | 1 << 6);
        due("told(11)", x.told(11), 5);
        x.see(-1, 0, false);
        x.see(1, 3, true);
        // KEEN, with CHEER 3 and 5: -1 + c - 4 less 3 or c; c - 4 + 1 less 5 or c.
        due("told(61)", x.told(61), 0b1000000000);
        due("told(60)", x.told(60), 0b1000000000);
        x.phrase(1, 0, 4);
        due("told(60)", x.told(60), 0b1000000000);
        x.phrase(1, 0, 9);
        due("told(60), c + 1 less c", x.told(60), 1023);
    }

    private static void pass() {
        GoodNewsPigeons x = six();
        x.letter(0, 3);
        x.letter(2, 16);
        x.tire(3, 5);
        x.tire(2, 1);
        due("pass(0)", x.pass(0), 0);
        due("of(0, 2)", x.of(0, 2), 3);
        due("pass(1)", x.pass(1), 1);
        due("of(0, 2)", x.of(0, 2), 0);
        due("of(0, 3)", x.of(0, 3), 2);
        due("of(0, 4)", x.of(0, 4), 1);
        due("of(2, 2)", x.of(2, 2), 16);
        due("of(2, 3), kept its LETTER", x.of(2, 3), 0);
        due("of(3, 3)", x.of(3, 3), 4);
        due("told(2)", x.told(2), 3);
        x.tire(0, 8);
        x.letter(0, 4095);
        due("pass(1)", x.pass(1), 2);
        due("of(0, 3)", x.of(0, 3), 9);
        due("of(0, 4)", x.of(0, 4), 2);
        due("told(2)", x.told(2), 255);
        due("pass(60)", x.pass(60), 62);
        due("of(0, 3)", x.of(0, 3), 0);
        due("pass(61)", x.pass(61), -2);
        due("pass(-1)", x.pass(-1), -2);
        due("pass(LOW)", x.pass(LOW), -2);
        due("told(0)", x.told(0), 62);
    }

    /** One behind the other: what the first makes KNOWN gladdens an OLD one behind it, not one ahead of it. */
    private static void passInOrder() {
        GoodNewsPigeons x = one(5, 0);
        x.pigeon(0, 0);
        x.pigeon(5, 0);
        x.letter(0, 1);
        x.letter(1, 2);
        x.letter(2, 4);
        x.pass(1);
        due("of(0, 4)", x.of(0, 4), 0);
        due("of(1, 4)", x.of(1, 4), 1);
        due("of(2, 4)", x.of(2, 4), 1);
        due("told(2)", x.told(2), 6);
        x.pass(1);
        due("of(0, 4)", x.of(0, 4), 1);
        due("of(1, 3), rested", x.of(1, 3), 1);
        due("of(0, 3), flew", x.of(0, 3), 2);
    }

    private static void lastDay() {
        GoodNewsPigeons x = one(0, 0);
        for (int i = 1; i <= 166; i++) {
            due("pass(60)", x.pass(60), 60 * i);
        }
        due("pass(40)", x.pass(40), -3);
        due("pass(61)", x.pass(61), -2);
        due("told(0)", x.told(0), 9960);
        due("pass(39)", x.pass(39), 9999);
        due("pass(1)", x.pass(1), -3);
        due("pass(0)", x.pass(0), 9999);
        lofted(x, "grim 50 !d=3");
        x.letter(0, 1);
        due("COMES beyond 9999", x.told(50), 5);
        due("ON beyond 9999", x.on(4, 20), 1);
        due("ON beyond 9999", x.on(5, 20), 0);
        x.plan(0, 0);
        due("ENDS beyond 9999", x.ends(0), 0);
        for (int i = 0; i < 4; i++) {
            due("ENDS beyond 9999", x.ends(0), 0);
            x.plan(0, 0);
        }
        due("ENDS beyond 9999", x.ends(0), 1);
        due("ENDS beyond 9999", x.ends(1), 1);
        due("told(0)", x.told(0), 9999);
    }

    private static void on() {
        GoodNewsPigeons x = one(0, 0);
        x.pigeon(1, 4);
        x.letter(0, 1);
        x.tire(0, 3);
        x.letter(1, 2);
        due("on(0, 0)", x.on(0, 0), 0);
        due("on(1, 0)", x.on(1, 0), 2);
        due("on(3, 0)", x.on(3, 0), 2);
        due("on(4, 0)", x.on(4, 0), 3);
        due("on(60, 0)", x.on(60, 0), 3);
        due("on(0, 10)", x.on(0, 10), 3);
        due("on(2, 10)", x.on(2, 10), 1);
        due("on(4, 10)", x.on(4, 10), 2);
        due("on(5, 10)", x.on(5, 10), 1);
        due("on(1, 11)", x.on(1, 11), 2);
        due("on(3, 20)", x.on(3, 20), 1);
        due("on(4, 20)", x.on(4, 20), 0);
        due("on(0, 21)", x.on(0, 21), 2);
        int[] none = {-1, 1, 9, 12, 15, 16, 19, 22, 25, 26, LOW, HIGH, LOW + 15, LOW + 9};
        for (int what : none) {
            due("on(1, " + what + ")", x.on(1, what), -1);
            due("on(61, " + what + ")", x.on(61, what), -1);
        }
        due("on(61, 0)", x.on(61, 0), -2);
        due("on(-1, 11)", x.on(-1, 11), -2);
        due("told(0)", x.told(0), 0);
        due("told(2)", x.told(2), 0);
        due("of(1, 2)", x.of(1, 2), 2);
        due("of(0, 3)", x.of(0, 3), 3);
        due("of(1, 4)", x.of(1, 4), 0);
    }

    private static void wording() {
        GoodNewsPigeons x = one(0, 0);
        due("wording(0, 0), JOY of none is 0", x.wording(0, 0), 1);
        due("wording(0, 8)", x.wording(0, 8), 8);
        due("wording(0, 255)", x.wording(0, 255), 255);
        x.phrase(9, 1, 7);
        due("wording(0, 7)", x.wording(0, 7), 512);
        x.phrase(9, 0, 4);
        due("wording(0, 7), with the least more", x.wording(0, 7), 513);
        x.phrase(10, 1, 7);
        due("wording(0, 7)", x.wording(0, 7), 1024);
        x.phrase(8, 1, 7);
        due("wording(0, 7), the least as bits", x.wording(0, 7), 256);
        x.pigeon(1, 1);
        due("wording(1, 0), the empty set", x.wording(1, 0), 0);
        x.tire(1, 9);
        due("wording(1, 0)", x.wording(1, 0), 511);
        x.phrase(11, 0, 9);
        due("wording(1, 0)", x.wording(1, 0), 2048 + 15);
        x.phrase(11, 1, 0);
        x.phrase(3, 1, 0);
        due("wording(1, 8), nothing MEANS it", x.wording(1, 8), -5);
        lofted(x, "grim 99 p<9");
        due("wording(0, 0), it never WILL", x.wording(0, 0), -5);
        lofted(x, "grim 99 n<12;glad 99 n=12");
        due("wording(0, 0), all", x.wording(0, 0), 4095);
        lofted(x, "glad 5 n=0&v=0");
        due("wording(0, 0), none by the LOFT", x.wording(0, 0), 0);
        due("wording(2, 256)", x.wording(2, 256), -1);
        due("wording(-1, 0)", x.wording(-1, 0), -1);
        due("wording(0, 256)", x.wording(0, 256), -2);
        due("wording(0, -1)", x.wording(0, -1), -2);
        due("of(0, 2)", x.of(0, 2), 0);
    }

    private static void birds() {
        GoodNewsPigeons x = six();
        due("birds(0)", x.birds(0), 0);
        due("birds(1)", x.birds(1), -5);
        x.letter(0, 1);
        x.letter(1, 2);
        x.letter(3, 4 + 8);
        x.letter(4, 1 + 2);
        due("birds(1), the least as bits", x.birds(1), 1);
        due("birds(3), the fewest", x.birds(3), 16);
        due("birds(4), KEEN will not", x.birds(4), -5);
        x.phrase(2, 0, 9);
        x.phrase(3, 0, 9);
        due("birds(4)", x.birds(4), 8);
        due("birds(15)", x.birds(15), 24);
        x.tire(4, 2);
        due("birds(15), FAST will not", x.birds(15), 11);
        due("birds(16)", x.birds(16), -5);
        x.letter(5, 16);
        x.letter(0, 16);
        x.pass(1);
        due("told(2)", x.told(2), 30);
        due("birds(16), KNOWN", x.birds(16), 0);
        due("birds(1), FAST will again", x.birds(1), 16);
        due("birds(256)", x.birds(256), -2);
        birdsAll();
        due("birds(-1)", x.birds(-1), -2);
        due("birds(HIGH)", x.birds(HIGH), -2);
    }

    private static void birdsAll() {
        GoodNewsPigeons x = new GoodNewsPigeons();
        for (int p = 0; p < 6; p++) {
            due("birds(63)", x.birds(63), -5);
            x.pigeon(1, 9);
            x.letter(p, 1 << p);
        }
        due("birds(63)", x.birds(63), 63);
        due("birds(31)", x.birds(31), 31);
        due("birds(64)", x.birds(64), -5);
    }

    private static void see() {
        GoodNewsPigeons x = one(0, 0);
        due("see(1, 4096, true)", x.see(1, 4096, true), -1);
        due("see(-2, 0, true)", x.see(-2, 0, true), -1);
        due("see(0, 4096, true)", x.see(0, 4096, true), -2);
        due("see(0, -1, true)", x.see(0, -1, true), -2);
        for (int i = 1; i <= 5; i++) {
            due("see", x.see(0, 4095, true), i);
        }
        due("the 6th", x.see(0, 0, true), -4);
        due("a bad 6th", x.see(0, 4096, true), -2);
        due("count(2)", x.count(2), 5);
        due("see(-1, -9, true)", x.see(-1, -9, true), 0);
        due("count(2)", x.count(2), 0);
        due("see(0, 0, false)", x.see(0, 0, false), 1);
        due("told(60)", x.told(60), 1023);
        due("see(0, 0, true)", x.see(0, 0, true), 2);
        due("told(60)", x.told(60), 0);
    }

    private static void can() {
        GoodNewsPigeons x = one(1, 9);
        x.pigeon(0, 9);
        due("can(0, 0)", x.can(0, 0), 10);
        due("can(0, 1)", x.can(0, 1), 0);
        x.tire(0, 4);
        x.see(0, 1, true);
        due("can(0, 0)", x.can(0, 0), 6);
        due("can(0, 1)", x.can(0, 1), 4);
        due("can(1, 0)", x.can(1, 0), 10);
        x.see(0, 0, false);
        due("can(0, 0)", x.can(0, 0), 1);
        due("can(0, 1)", x.can(0, 1), 4);
        due("can(1, 0)", x.can(1, 0), 0);
        due("can(1, 1)", x.can(1, 1), -5);
        x.see(0, 3, false);
        due("can(0, 0)", x.can(0, 0), 0);
        due("can(0, 1)", x.can(0, 1), -5);
        due("of(0, 1)", x.of(0, 1), 9);
        x.see(-1, 0, true);
        lofted(x, "glad 1 v=3|v=7");
        x.see(1, 0, true);
        due("can(1, 0), by the LOFT", x.can(1, 0), 2);
        due("can(1, 1), by the LOFT", x.can(1, 1), 3);
        due("can(2, 0)", x.can(2, 0), -1);
        due("can(-1, 0)", x.can(-1, 0), -1);
        due("can(0, 2)", x.can(0, 2), -1);
        due("can(0, -1)", x.can(0, -1), -1);
    }

    private static void odds() {
        GoodNewsPigeons x = one(0, 0);
        due("odds(0, 0), all", x.odds(0, 0), 1);
        due("odds(0, 1), all", x.odds(0, 1), 1);
        for (int w = 0; w < 3; w++) {
            x.phrase(w, 0, 2);
        }
        due("odds(0, 0)", x.odds(0, 0), 3);
        due("odds(0, 1)", x.odds(0, 1), 4);
        x.letter(0, 1);
        due("odds(0, 0), none", x.odds(0, 0), 0);
        due("odds(0, 1), none", x.odds(0, 1), 1);
        x.phrase(5, 0, 9);
        due("odds(0, 0)", x.odds(0, 0), 1);
        due("odds(0, 1)", x.odds(0, 1), 12);
        x.letter(0, 33);
        due("odds(0, 0), 0 and 5 are in it", x.odds(0, 0), 1);
        due("odds(0, 1)", x.odds(0, 1), 1);
        x.phrase(1, 0, 1);
        x.phrase(2, 0, 1);
        due("odds(0, 0)", x.odds(0, 0), 5);
        due("odds(0, 1)", x.odds(0, 1), 6);
        due("odds(1, 0)", x.odds(1, 0), NO);
        due("odds(-1, 0)", x.odds(-1, 0), NO);
        due("odds(0, 2)", x.odds(0, 2), NO);
        due("odds(0, -1)", x.odds(0, -1), NO);
        due("of(0, 2)", x.of(0, 2), 33);
    }

    private static void mean() {
        GoodNewsPigeons x = six();
        due("mean(0)", x.mean(0), NO);
        due("mean(1)", x.mean(1), NO);
        x.letter(0, 7);
        due("mean(0)", x.mean(0), 3);
        due("mean(1)", x.mean(1), 1);
        x.letter(1, 1);
        due("mean(0)", x.mean(0), 9);
        due("mean(1)", x.mean(1), 2);
        x.letter(2, 1);
        due("mean(0)", x.mean(0), 3);
        due("mean(1)", x.mean(1), 1);
        x.phrase(0, 0, 0);
        x.letter(1, 0);
        // PIGEON -2, DULL -2, KEEN -4.
        x.letter(3, 1);
        due("mean(0)", x.mean(0), -8);
        due("mean(1)", x.mean(1), 3);
        x.letter(3, 0);
        due("mean(0)", x.mean(0), -2);
        due("mean(1)", x.mean(1), 1);
        x.letter(0, 6);
        due("mean(0), 0 in lowest terms", x.mean(0), 0);
        due("mean(1), 0 in lowest terms", x.mean(1), 1);
        due("mean(2)", x.mean(2), NO);
        due("mean(-1)", x.mean(-1), NO);
    }

    private static void plan() {
        GoodNewsPigeons x = one(0, 0);
        due("plan(4, 0)", x.plan(4, 0), -1);
        due("plan(-2, 0)", x.plan(-2, 0), -1);
        due("plan(1, 1)", x.plan(1, 1), -1);
        due("plan(1, -1)", x.plan(1, -1), -1);
        due("plan(2, 1)", x.plan(2, 1), -1);
        due("plan(2, -1)", x.plan(2, -1), -1);
        due("plan(3, 12)", x.plan(3, 12), -1);
        due("plan(3, -1)", x.plan(3, -1), -1);
        due("plan(0, LOW)", x.plan(0, LOW), 1);
        due("plan(1, 0)", x.plan(1, 0), 2);
        due("plan(2, 0)", x.plan(2, 0), 3);
        due("plan(3, 11)", x.plan(3, 11), 4);
        for (int i = 5; i <= 10; i++) {
            due("plan(0, 9)", x.plan(0, 9), i);
        }
        due("the 11th", x.plan(0, 0), -4);
        due("a bad 11th", x.plan(1, 1), -1);
        due("count(3)", x.count(3), 10);
        due("plan(-1, 99)", x.plan(-1, 99), 0);
        due("count(3)", x.count(3), 0);
        due("plan(0, 0)", x.plan(0, 0), 1);
    }

    private static void ends() {
        GoodNewsPigeons x = one(0, 0);
        x.pigeon(0, 0);
        x.letter(0, 1);
        x.letter(1, 2);
        x.tire(1, 9);
        due("ends(0), no PLAN", x.ends(0), 0);
        due("ends(1), no PLAN", x.ends(1), 0);
        x.plan(0, 0);
        due("ends(0)", x.ends(0), 1);
        due("ends(1)", x.ends(1), 1);
        x.plan(2, 1);
        due("ends(0)", x.ends(0), 1);
        x.plan(0, 0);
        due("ends(0)", x.ends(0), 3);
        due("ends(1)", x.ends(1), 2);
        x.plan(-1, 0);
        x.plan(1, 0);
        x.plan(0, 0);
        due("ends(0), its LETTER taken", x.ends(0), 0);
        x.plan(-1, 0);
        x.tire(1, 4);
        x.plan(3, 1);
        x.plan(0, 0);
        due("ends(0), more CHEER", x.ends(0), 3);
        due("ends(1), more CHEER", x.ends(1), 2);
        due("told(11)", x.told(11), 5);
        due("told(0)", x.told(0), 0);
        due("of(0, 2)", x.of(0, 2), 1);
        due("of(1, 3)", x.of(1, 3), 4);
        x.pass(1);
        due("ends(1), with what had FLOWN", x.ends(1), 2);
        due("ends(2)", x.ends(2), -1);
        due("ends(-1)", x.ends(-1), -1);
    }

    private static void book() {
        GoodNewsPigeons x = new GoodNewsPigeons();
        due("book(12, 10)", x.book(12, 10), -1);
        due("book(-2, 0)", x.book(-2, 0), -1);
        due("book(0, 10)", x.book(0, 10), -2);
        due("book(0, -1)", x.book(0, -1), -2);
        for (int i = 1; i <= 8; i++) {
            due("book", x.book(12 - i, i + 1), i);
        }
        due("the 9th", x.book(0, 0), -4);
        due("a bad 9th", x.book(0, 10), -2);
        due("count(4)", x.count(4), 8);
        due("book(-1, 99)", x.book(-1, 99), 0);
        due("count(4)", x.count(4), 0);
    }

    private static void looked() {
        GoodNewsPigeons x = new GoodNewsPigeons();
        due("looked()", x.looked(), -5);
        x.book(11, 5);
        x.book(0, 5);
        due("looked()", x.looked(), -5);
        x.book(3, 4);
        x.book(0, 9);
        due("looked()", x.looked(), 2);
        x.phrase(3, 0, 4);
        due("looked()", x.looked(), 3);
        x.phrase(0, 0, 9);
        due("looked()", x.looked(), 1);
        x.phrase(11, 0, 0);
        due("looked()", x.looked(), 0);
        x.book(-1, 0);
        due("looked()", x.looked(), -5);
    }

    private static void judge() {
        GoodNewsPigeons x = new GoodNewsPigeons();
        due("judge(0, 0), nothing", x.judge(0, 0), 100);
        due("judge(5, -1), nothing", x.judge(5, -1), 100);
        due("judge(6, 0)", x.judge(6, 0), -1);
        due("judge(-1, 0)", x.judge(-1, 0), -1);
        int[] others = {0, 1, 3, 4};
        for (int sort : others) {
            x.tape(1, sort, 20);
            due("judge(1, 0)", x.judge(1, 0), -12);
            due("judge(1, -1)", x.judge(1, -1), -12);
        }
        x.tape(0, 2, 14);
        for (int i = 0; i < 14; i++) {
            x.item(0, i, 5);
        }
        due("judge(0, 0)", x.judge(0, 0), -5);
        due("judge(0, 2)", x.judge(0, 2), -5);
        due("judge(0, 3)", x.judge(0, 3), 111);
        due("judge(0, 13)", x.judge(0, 13), 101);
        due("judge(0, 14)", x.judge(0, 14), 100);
        due("judge(0, HIGH)", x.judge(0, HIGH), 100);
        due("judge(0, -1)", x.judge(0, -1), 100);
        due("judge(0, LOW)", x.judge(0, LOW), 100);
        x.phrase(11, 0, 6);
        due("judge(0, 0)", x.judge(0, 0), 11);
        due("judge(0, 3)", x.judge(0, 3), 111);
        x.item(0, 13, 6);
        due("judge(0, 2)", x.judge(0, 2), -5);
        x.item(0, 4, 1);
        due("judge(0, 2)", x.judge(0, 2), 2);
        x.item(0, 3, 6);
        due("judge(0, 3)", x.judge(0, 3), 0);
        x.tape(0, 2, 0);
        due("judge(0, 0), a row of 0", x.judge(0, 0), 100);
    }

    private static void image() {
        GoodNewsPigeons x = new GoodNewsPigeons();
        due("image()", x.image(), 0);
        x.pigeon(0, 0);
        x.pigeon(1, 0);
        due("undo()", x.undo(), 0);
        due("of(0, 0)", x.of(0, 0), -1);
        x.pigeon(3, 2);
        due("image()", x.image(), 1);
        x.pigeon(4, 2);
        due("image()", x.image(), 2);
        x.pigeon(5, 2);
        due("undo()", x.undo(), 2);
    }

    private static void undo() {
        GoodNewsPigeons x = new GoodNewsPigeons();
        due("undo()", x.undo(), -3);
        x.pigeon(6, 7);
        x.letter(0, 6);
        x.row(0, 2, 8);
        x.tire(0, 1);
        x.phrase(2, 0, 7);
        x.phrase(2, 1, 99);
        x.see(0, 0, false);
        x.plan(0, 0);
        x.plan(2, 0);
        x.book(4, 4);
        lofted(x, "rest 3;glad 9 n=0");
        x.pass(1);
        x.letter(0, 5);
        due("image()", x.image(), 1);
        due("told(2)", x.told(2), 99 | 2);
        x.pigeon(0, 0);
        x.letter(0, 1);
        x.row(0, 2, 1);
        x.tire(0, 9);
        x.phrase(2, 0, 1);
        x.phrase(2, 1, 1);
        x.see(0, 1, true);
        x.plan(-1, 0);
        x.plan(1, 0);
        x.book(4, 5);
        lofted(x, "rest 5");
        x.letter(1, 16);
        x.pass(2);
        fed(x, "ab");
        x.tape(3, 2, 9);
        x.act(0, 2, 5);
        int ran = x.count(6);
        for (int again = 0; again < 2; again++) {
            due("undo()", x.undo(), 1);
            due("count(0)", x.count(0), 1);
            due("of(0, 1)", x.of(0, 1), 7);
            due("of(0, 2)", x.of(0, 2), 5);
            due("of(0, 3)", x.of(0, 3), 3);
            due("of(0, 4)", x.of(0, 4), 1);
            due("joy(0, 3), ROW", x.joy(0, 3), 2 - 5 - 3 + 8);
            due("joy(0, 0), which LOFT holds", x.joy(0, 0), 6);
            due("told(0)", x.told(0), 1);
            due("told(1)", x.told(1), 3);
            due("told(2)", x.told(2), 99 | 2);
            due("told(12)", x.told(12), 7);
            due("told(32)", x.told(32), 99);
            due("count(2)", x.count(2), 1);
            due("told(60)", x.told(60), 0);
            due("count(3)", x.count(3), 2);
            due("count(4)", x.count(4), 1);
            due("looked()", x.looked(), 0);
            due("LOFTS stay", x.count(1), 2);
            due("THE TEXT stays", x.count(5), 2);
            due("TAPES stay", x.read(3, 8), 0);
            due("THE TRACE stays", x.count(6), ran);
            x.phrase(2, 0, 3);
            x.pass(1);
        }
        x.loft();
        due("the next LOFT", lofted(x, "rest 6"), 2);
        x.undo();
        due("told(1)", x.told(1), 3);
    }

    private static void undoToNoLoft() {
        GoodNewsPigeons x = one(0, 0);
        x.image();
        lofted(x, "rest 7;glad 9 p=0");
        due("told(1)", x.told(1), 7);
        x.undo();
        due("told(1)", x.told(1), 1);
        due("joy(0, 0)", x.joy(0, 0), 0);
    }

    private static void acts(int kind, int number, int v, int[] answers, int[][] bodies) {
        GoodNewsPigeons x = new GoodNewsPigeons();
        for (int p = 0; p < number; p++) {
            x.pigeon(0, 0);
        }
        x.pigeon(kind, v);
        for (int act = 0; act < 3; act++) {
            String call = "KIND " + kind + " act " + act;
            due(call, x.act(number, act, 10), answers[act]);
            due(call + " count(6)", x.count(6), bodies[act].length);
            for (int i = 0; i < bodies[act].length; i++) {
                due(call + " trace(" + i + ")", x.trace(i), bodies[act][i]);
            }
            due(call + " trace beyond", x.trace(bodies[act].length), -1);
        }
    }

    private static void act() {
        acts(0, 2, 3, new int[] {12, 9, 18}, new int[][] {{10}, {11, 10}, {12, 11, 10}});
        acts(1, 2, 3, new int[] {12, 9 ^ 6, (9 ^ 6) * 2}, new int[][] {{10}, {20, 11, 10}, {12, 20, 11, 10}});
        acts(2, 2, 3, new int[] {32, 29, 58}, new int[][] {{30, 10}, {11, 30, 10}, {12, 11, 30, 10}});
        acts(3, 2, 3, new int[] {12, 9, 18}, new int[][] {{10}, {11, 10}, {40, 12, 11, 10, 11, 10}});
        acts(4, 2, 3, new int[] {-12, -16 ^ 6, (-16 ^ 6) * 2},
            new int[][] {{50, 10}, {51, 20, 11, 50, 10}, {12, 51, 20, 11, 50, 10}});
        acts(5, 2, 3, new int[] {32, 29, 46}, new int[][] {{30, 10}, {11, 30, 10}, {60, 12, 11, 30, 10}});
        // TOLD, i 2, v 3: coos(10) = 12 ^ 3 = 15; flies(10) = 15 - 3 + 4 = 16; flies(1) = (3 ^ 3) - 3 + 4 = 1.
        acts(6, 2, 3, new int[] {15, 16, 33}, new int[][] {{71, 10}, {70, 11, 71, 10, 10},
            {40, 12, 70, 11, 71, 10, 10, 70, 11, 71, 10, 10}});
        GoodNewsPigeons x = one(2, 9);
        due("wraps", x.act(0, 0, HIGH), HIGH * 3);
        due("wraps", x.act(0, 1, LOW), LOW - 9);
        due("wraps", x.act(0, 2, 1 << 30), (3 << 30) * 2 - 18);
        due("act(1, 0, 1)", x.act(1, 0, 1), 0);
        due("no TRACE", x.count(6), 0);
        due("no TRACE", x.trace(0), -1);
        x.act(0, 0, 0);
        due("act(0, 3, 1)", x.act(0, 3, 1), 0);
        due("no TRACE", x.count(6), 0);
        x.act(0, 0, 0);
        due("act(0, -1, 1)", x.act(0, -1, 1), 0);
        due("act(-1, 0, 1)", x.act(-1, 0, 1), 0);
        due("no TRACE", x.trace(0), -1);
    }

    private static void trace() {
        GoodNewsPigeons x = one(6, 1);
        x.act(0, 2, 1);
        due("trace(0)", x.trace(0), 40);
        due("trace(11)", x.trace(11), 10);
        due("trace(12)", x.trace(12), -1);
        due("trace(19)", x.trace(19), -1);
        due("trace(20)", x.trace(20), -1);
        due("trace(-1)", x.trace(-1), -1);
        due("trace(LOW)", x.trace(LOW), -1);
        due("trace(HIGH)", x.trace(HIGH), -1);
        x.act(0, 0, 1);
        due("trace(0)", x.trace(0), 71);
        due("trace(2)", x.trace(2), -1);
        x.joy(0, 0);
        x.taken(0, 5);
        due("trace(1)", x.trace(1), 10);
    }

    private static void taken() {
        int[][] under = {{0}, {0, 1}, {0, 2}, {0, 3}, {0, 1, 4}, {0, 2, 5}, {0, 3, 6}};
        for (int kind = 0; kind < 7; kind++) {
            GoodNewsPigeons x = one(kind, 0);
            for (int k = 0; k < 7; k++) {
                boolean isOne = false;
                for (int u : under[kind]) {
                    isOne |= u == k;
                }
                due("KIND " + kind + " taken(0, " + k + ")", x.taken(0, k), isOne ? kind : -12);
            }
        }
        GoodNewsPigeons x = one(6, 0);
        due("taken(1, 7)", x.taken(1, 7), -2);
        due("taken(0, -1)", x.taken(0, -1), -2);
        due("taken(1, 6)", x.taken(1, 6), -11);
        due("taken(-1, 0)", x.taken(-1, 0), -11);
        due("taken(LOW, 0)", x.taken(LOW, 0), -11);
    }

    private static void count() {
        GoodNewsPigeons x = one(0, 0);
        x.pigeon(6, 0);
        lofted(x, "rest 1");
        lofted(x, "rest 2");
        lofted(x, "rest 3");
        x.see(0, 0, true);
        for (int i = 0; i < 4; i++) {
            x.plan(0, 0);
        }
        for (int i = 0; i < 5; i++) {
            x.book(0, 0);
        }
        fed(x, "abcdef");
        x.act(1, 2, 7);
        int[] dues = {2, 3, 1, 4, 5, 6, 12};
        for (int what = 0; what < 7; what++) {
            due("count(" + what + ")", x.count(what), dues[what]);
        }
        due("count(7)", x.count(7), -2);
        due("count(-1)", x.count(-1), -2);
        due("count(HIGH)", x.count(HIGH), -2);
    }

    private static void tape() {
        GoodNewsPigeons x = new GoodNewsPigeons();
        due("tape(0, 2, 60)", x.tape(0, 2, 60), 1);
        due("read(0, 59)", x.read(0, 59), 0);
        due("read(0, 60)", x.read(0, 60), NO);
        x.item(0, 59, 7);
        x.item(0, 0, 7);
        due("tape(0, 3, 60)", x.tape(0, 3, 60), 1);
        due("read(0, 0)", x.read(0, 0), 0);
        due("read(0, 59)", x.read(0, 59), 0);
        due("tape(0, 0, 0)", x.tape(0, 0, 0), 1);
        due("read(0, 0)", x.read(0, 0), NO);
        due("item(0, 0, 1), a row of 0", x.item(0, 0, 1), -13);
        due("tape(0, -1, LOW)", x.tape(0, -1, LOW), 1);
        due("item(0, 0, 1), nothing", x.item(0, 0, 1), -11);
        due("tape(5, 4, 1)", x.tape(5, 4, 1), 1);
        due("tape(5, 4, 61)", x.tape(5, 4, 61), -2);
        due("tape(5, 5, 1)", x.tape(5, 5, 1), -2);
        due("tape(5, -2, 1)", x.tape(5, -2, 1), -2);
        due("tape(5, 5, -1)", x.tape(5, 5, -1), -2);
        due("tape(5, 0, -1)", x.tape(5, 0, -1), -14);
        due("tape(5, 0, LOW)", x.tape(5, 0, LOW), -14);
        due("tape(5, 0, HIGH)", x.tape(5, 0, HIGH), -2);
        due("tape(6, 9, 1)", x.tape(6, 9, 1), -1);
        due("tape(-1, -1, 1)", x.tape(-1, -1, 1), -1);
        due("read(5, 0)", x.read(5, 0), 0);
    }

    private static void item() {
        GoodNewsPigeons x = new GoodNewsPigeons();
        long[] vs = {0, 1, -1, 127, 128, 200, 255, 256, 32768, 70000, 1L << 31, 9999999999L, 1L << 40, NO, Long.MAX_VALUE};
        for (int sort = 0; sort < 5; sort++) {
            x.tape(sort, sort, 3);
            for (long v : vs) {
                long want = sort == 0 ? (byte) v : sort == 1 ? (short) v : sort == 2 ? (int) v : sort == 3 ? v : v != 0 ? 1 : 0;
                due("item(" + sort + ", 2, " + v + ")", x.item(sort, 2, v), 1);
                due("read(" + sort + ", 2)", x.read(sort, 2), want);
            }
            due("read(" + sort + ", 1)", x.read(sort, 1), 0);
            due("item, place 3", x.item(sort, 3, 1), -13);
            due("item, place -1", x.item(sort, -1, 1), -13);
            due("item, place LOW", x.item(sort, LOW, 1), -13);
        }
        due("item(5, -1, 1)", x.item(5, -1, 1), -11);
        due("item(6, 0, 1)", x.item(6, 0, 1), -1);
        due("item(-1, 0, 1)", x.item(-1, 0, 1), -1);
    }

    private static void read() {
        GoodNewsPigeons x = new GoodNewsPigeons();
        x.tape(3, 3, 2);
        x.item(3, 0, -8);
        due("read(3, 0)", x.read(3, 0), -8);
        due("read(3, 1)", x.read(3, 1), 0);
        due("read(3, 2)", x.read(3, 2), NO);
        due("read(3, -1)", x.read(3, -1), NO);
        due("read(2, 0)", x.read(2, 0), NO);
        due("read(6, 0)", x.read(6, 0), NO);
        due("read(-1, 0)", x.read(-1, 0), NO);
        x.tape(3, -1, 2);
        due("read(3, 0)", x.read(3, 0), NO);
    }

    private static void shift() {
        GoodNewsPigeons x = new GoodNewsPigeons();
        x.tape(0, 1, 6);
        x.tape(1, 1, 4);
        x.tape(2, 2, 4);
        for (int i = 0; i < 6; i++) {
            x.item(0, i, i + 1);
        }
        due("shift forth", x.shift(0, 0, 0, 2, 4), 4);
        int[] forth = {1, 2, 1, 2, 3, 4};
        for (int i = 0; i < 6; i++) {
            due("read(0, " + i + ")", x.read(0, i), forth[i]);
        }
        due("shift back", x.shift(0, 3, 0, 1, 3), 3);
        int[] back = {1, 2, 3, 4, 3, 4};
        for (int i = 0; i < 6; i++) {
            due("read(0, " + i + ")", x.read(0, i), back[i]);
        }
        due("shift to another", x.shift(0, 2, 1, 0, 4), 4);
        due("read(1, 0)", x.read(1, 0), 3);
        due("read(1, 3)", x.read(1, 3), 4);
        due("shift of 0 at the ends", x.shift(0, 6, 1, 4, 0), 0);
        due("beyond the first's end", x.shift(0, 7, 1, 4, 0), -13);
        due("beyond the other's end", x.shift(0, 6, 1, 5, 0), -13);
        due("beyond the first's end", x.shift(0, 3, 1, 0, 4), -13);
        due("beyond the other's end", x.shift(0, 0, 1, 1, 4), -13);
        due("i below 0", x.shift(0, -1, 1, 0, 1), -13);
        due("j below 0", x.shift(0, 0, 1, -1, 1), -13);
        due("n below 0", x.shift(0, 1, 1, 1, -1), -13);
        due("n far below 0", x.shift(0, 1, 1, 1, LOW), -13);
        due("n far above", x.shift(0, 1, 1, 1, HIGH), -13);
        due("i far above", x.shift(0, HIGH, 1, 0, 1), -13);
        due("of unlike sorts, no place", x.shift(0, -1, 2, 0, 1), -12);
        due("nothing there", x.shift(0, -1, 5, 0, 1), -11);
        due("nothing here", x.shift(5, 0, 0, 0, 1), -11);
        x.tape(3, 0, 2);
        x.tape(4, 0, 1);
        x.item(3, 1, -3);
        due("shift of bytes", x.shift(3, 1, 4, 0, 1), 1);
        due("read(4, 0)", x.read(4, 0), -3);
        due("no TAPE", x.shift(0, 0, 6, 0, 1), -1);
        due("no TAPE", x.shift(-1, 0, 5, 0, 1), -1);
        due("read(1, 1)", x.read(1, 1), 4);
        due("read(0, 1)", x.read(0, 1), 2);
    }

    private static void pigeonsWordsLofts() {
        promise = 1;
        newObject();
        promise = 2;
        pigeon();
        newcomerAfterUndo();
        promise = 3;
        of();
        promise = 4;
        joy();
        joyOfTold();
        joyByLoft();
        joyByBrackets();
        joyByTests();
        promise = 5;
        letter();
        promise = 6;
        tire();
        promise = 7;
        phrase();
        promise = 8;
        row();
        promise = 9;
        feed();
        promise = 10;
        loft();
        loftHoldsOn();
        faults();
        promise = 11;
        told();
        comesLate();
        cheers();
    }

    private static void daysToBooks() {
        promise = 12;
        pass();
        passInOrder();
        lastDay();
        promise = 13;
        on();
        promise = 14;
        wording();
        promise = 15;
        birds();
        promise = 16;
        see();
        promise = 17;
        can();
        promise = 18;
        odds();
        promise = 19;
        mean();
        promise = 20;
        plan();
        promise = 21;
        ends();
        promise = 22;
        book();
        promise = 23;
        looked();
    }

    private static void judgingToTapes() {
        promise = 24;
        judge();
        promise = 25;
        image();
        promise = 26;
        undo();
        undoToNoLoft();
        promise = 27;
        act();
        promise = 28;
        trace();
        promise = 29;
        taken();
        promise = 30;
        count();
        promise = 31;
        tape();
        promise = 32;
        item();
        promise = 33;
        read();
        promise = 34;
        shift();
    }

    public static void main(String[] args) {
        pigeonsWordsLofts();
        daysToBooks();
        judgingToTapes();
        System.out.println(wrong == 0 ? "all answers are as due" : wrong + " answers are not as due");
        if (wrong != 0) {
            System.exit(1);
        }
    }
}
