/**
 * The boundary cases of each promise: the last number that is taken and the first that is refused, each refusal by
 * itself, each pair of refusals in the order of the call's words, and that a refused call and one that asks change nothing.
 */
public final class CallsEdgeTest {
    /** Something of all there is, nothing of it full: five PIGEONS, an IMAGE that is otherwise, half a text. */
    private static final String SOME = """
        pigeon(6, 3) = 0
        pigeon(1, 8) = 1
        row(0, 0, 9) = 0
        row(0, 1, 2) = 0
        row(0, 2, 7) = 0
        phrase(3, 0, 9) = 5
        phrase(3, 1, 130) = 8
        phrase(0, 0, 2) = 5
        letter(0, 9) = 0
        letter(1, 6) = 0
        tire(1, 3) = 0
        see(1, 4, true) = 1
        plan(0, 0) = 1
        book(7, 7) = 1
        loft "glad 5 p=1;grim 2 n>1;rest 2" = 0
        pass(1) = 1
        image() = 2
        pigeon(2, 4) = 2
        pigeon(4, 9) = 3
        pigeon(5, 6) = 4
        letter(0, 24) = 0
        letter(2, 3) = 0
        letter(3, 2080) = 0
        letter(4, 192) = 0
        tire(4, 9) = 0
        phrase(6, 0, 0) = 5
        loft "glad 3 k=4|!v<5;grim 1 d=2" = 1
        see(0, 24, true) = 2
        see(4, 192, false) = 3
        plan(3, 5) = 2
        plan(2, 4) = 3
        plan(0, 0) = 4
        book(3, 9) = 2
        book(0, 3) = 3
        tape(0, 0, 3) = 1
        item(0, 2, -7) = 1
        tape(1, 1, 0) = 1
        tape(2, 2, 5) = 1
        item(2, 1, 2) = 1
        tape(3, 3, 4) = 1
        item(3, 3, NO) = 1
        tape(4, 4, 60) = 1
        item(4, 59, 1) = 1
        act(0, 2, 5) = 11
        feed "rest 6"
        """;

    /** All that can be full is full, but for the TAPES. */
    private static final String FULL = """
        pigeon(6, 0) = 0
        pigeon(1, 9) * 5
        loft "rest 1" = 0
        loft "rest 2" = 1
        loft "rest 3" = 2
        loft "rest 4" = 3
        loft "rest 5" = 4
        loft "rest 6" = 5
        see(0, 1, true) * 5
        plan(0, 0) * 10
        book(1, 1) * 8
        letter(0, 7) = 0
        tape(2, 2, 3) = 1
        tape(4, 4, 60) = 1
        act(0, 2, 5) = 17
        image() = 6
        feed "rest"
        """;

    private static final int[] NO_PIGEON = {-1, -2, 5, 6, Integer.MAX_VALUE, Integer.MIN_VALUE};

    /** This call with each of these numbers for its #, each answered so, and nothing changed. */
    private static String each(String call, String answer, int... numbers) {
        StringBuilder text = new StringBuilder();
        for (int n : numbers) {
            text.append(call.replace("#", "" + n)).append(" ! ").append(answer).append('\n');
        }
        return text.toString();
    }

    private static int[] upTo(int from, int to) {
        int[] numbers = new int[to - from + 1];
        for (int i = 0; i < numbers.length; i++) {
            numbers[i] = from + i;
        }
        return numbers;
    }

    private static void newObject() {
        Runs.told("Promise 1: No PIGEONS, no LOFT.", each("count(#)", "0", upTo(0, 6)), "told(0) ! 0", "told(1) ! 1",
            "told(2) ! 0", "told(3) ! 0", each("of(#, 0)", "-1", upTo(-1, 6)), each("told(#)", "5", upTo(10, 21)),
            each("told(#)", "-5", upTo(50, 57)), each("told(#)", "1023", upTo(60, 71)), "undo() ! -3", "trace(0) ! -1",
            each("item(#, 0, 1)", "-11", upTo(0, 5)), each("read(#, 0)", "NO", upTo(0, 5)), "looked() ! -5", "ends(0) ! 0",
            "ends(1) ! 0", "mean(0) ! NO", "birds(0) ! 0", "birds(1) ! -5", "pass(0) = 0", "loft() = -10", "count(1) ! 0",
            "pigeon(0, 0) = 0", "joy(0, 0) ! 0", "joy(0, 1) ! 1");
        Runs.due("Terms: `NO = Long.MIN_VALUE`: There is no such number.", "NO", GoodNewsPigeons.NO, Long.MIN_VALUE);
        String answers = "Terms: Answers: NONE (-1) no such number; BAD (-2) a number is not as told; STATE (-3) as told; FULL"
            + " (-4); the first that a call's words name.";
        Runs.due(answers, "NONE", GoodNewsPigeons.NONE, -1);
        Runs.due(answers, "BAD", GoodNewsPigeons.BAD, -2);
        Runs.due(answers, "STATE", GoodNewsPigeons.STATE, -3);
        Runs.due(answers, "FULL", GoodNewsPigeons.FULL, -4);
        Runs.told("What it is: An object is used for at most 512 calls after it has been made", "pass(19) * 510",
            "pass(60) = 9750", "told(0) = 9750");
        Runs.told("What it is: An object is used for at most 512 calls after it has been made", "pigeon(6, 3) = 0",
            "act(0, 2, 10) * 250", "wording(0, 255) * 255", "see(0, 1, false) = 1", "undo() = -3", "image() = 1", "undo() = 1",
            "act(0, 2, 10) = 17", "count(6) = 12");
    }

    private static void pigeon() {
        Runs.told("Promise 2: A PIGEON: its number.", "pigeon(0, 9) = 0", "pigeon(6, 0) = 1", "of(0, 0) ! 0", "of(0, 1) ! 9",
            "of(1, 0) ! 6", "of(1, 1) ! 0", each("of(1, #)", "0", 2, 3, 4, 5), "of(1, 6) ! -5", "joy(1, 0) ! 0");
        Runs.told("Promise 2: NONE: kind; BAD: v; FULL: 6.", each("pigeon(#, 0)", "-1", -1, 7, NO_PIGEON[4], NO_PIGEON[5]),
            each("pigeon(0, #)", "-2", -1, 10, NO_PIGEON[4], NO_PIGEON[5]), each("pigeon(7, #)", "-1", -1, 10), "count(0) ! 0",
            "pigeon(0, 0) * 5", "pigeon(6, 9) = 5", each("pigeon(#, 0)", "-4", upTo(0, 6)), "pigeon(7, 0) ! -1",
            "pigeon(-1, 0) ! -1", "pigeon(0, 10) ! -2", "pigeon(0, -1) ! -2", "pigeon(7, 10) ! -1", "count(0) ! 6");
        Runs.told("Promise 2: NONE: kind; BAD: v; FULL: 6.", SOME, "pigeon(-1, 0) ! -1", "pigeon(7, 3) ! -1",
            "pigeon(6, 10) ! -2", "pigeon(6, -1) ! -2", "pigeon(-1, -1) ! -1", "pigeon(0, 0) = 5", "pigeon(0, 0) ! -4");
    }

    private static void of() {
        Runs.told("Promise 3: Of a PIGEON what 0 KIND, 1 v, 2 LETTER (bits), 3 TIRED, 4 FLOWN, 5 whether it has a LETTER and WILL"
            + " fly with it, 6 SPARE (-5).", SOME, "of(1, 0) ! 1", "of(1, 1) ! 8", "of(1, 2) ! 0", "of(1, 3) ! 5",
            "of(1, 4) ! 1", "of(1, 5) ! 0", "of(1, 6) ! -5", "of(0, 2) ! 24", "of(0, 3) ! 2", "of(0, 4) ! 1", "of(0, 5) ! 1",
            "of(0, 6) ! -5", "of(4, 3) ! 9", "of(4, 5) ! 0", "of(4, 6) ! 6", "of(2, 5) ! 0", "of(2, 6) ! -5");
        Runs.told("Promise 3: NONE.", SOME, each("of(#, 0)", "-1", NO_PIGEON), each("of(#, 6)", "-1", NO_PIGEON),
            each("of(0, #)", "-1", -1, 7, 8, NO_PIGEON[4], NO_PIGEON[5]), "of(5, 7) ! -1", "of(-1, -1) ! -1");
    }

    private static void joy() {
        Runs.told("Promise 4: JOY of a PIGEON and WORDS (0 .. 4095).", SOME, "joy(0, 0) ! 7", "joy(0, 4095) ! 15",
            "joy(1, 0) ! 6", "joy(2, 4095) ! 4", "joy(3, 4095) ! 20", "joy(4, 0) ! 1", "joy(4, 64) ! -1");
        Runs.told("Promise 4: -10001: NONE; -10002: BAD.", SOME, each("joy(#, 0)", "-10001", NO_PIGEON),
            each("joy(#, 4096)", "-10001", NO_PIGEON), "joy(5, -1) ! -10001",
            each("joy(0, #)", "-10002", -1, 4096, 8191, NO_PIGEON[4], NO_PIGEON[5]));
        Runs.told("Terms: Where it may be below 0, -10001 stands for NONE, -10002 for BAD.", "joy(0, 0) ! -10001",
            "joy(0, -1) ! -10001", "pigeon(0, 0) = 0", "joy(0, 0) ! 0", "joy(0, -1) ! -10002", "joy(1, 0) ! -10001");
    }

    private static void letter() {
        Runs.told("Promise 5: The LETTER of a PIGEON becomes WORDS (0: it has none): what it was.", SOME, "letter(0, 4095) = 24",
            "of(0, 2) ! 4095", "letter(0, 1) = 4095", "letter(0, 0) = 1", "letter(0, 0) = 0", "of(0, 5) ! 0", "told(3) ! 8",
            "letter(4, 2048) = 192", "of(4, 2) ! 2048");
        Runs.told("Promise 5: NONE; BAD.", SOME, each("letter(#, 1)", "-1", NO_PIGEON), each("letter(#, 4096)", "-1", NO_PIGEON),
            each("letter(#, -1)", "-1", NO_PIGEON), each("letter(0, #)", "-2", -1, 4096, NO_PIGEON[4], NO_PIGEON[5]),
            each("letter(4, #)", "-2", -1, 4096));
    }

    private static void tire() {
        Runs.told("Promise 6: TIRED of a PIGEON becomes n (0 .. 9): what it was.", SOME, "tire(4, 0) = 9", "of(4, 3) ! 0",
            "tire(4, 9) = 0", "of(4, 3) ! 9", "tire(0, 1) = 2", "of(0, 3) ! 1");
        Runs.told("Promise 6: NONE; BAD.", SOME, each("tire(#, 1)", "-1", NO_PIGEON), each("tire(#, 10)", "-1", NO_PIGEON),
            each("tire(#, -1)", "-1", NO_PIGEON), each("tire(1, #)", "-2", -1, 10, NO_PIGEON[4], NO_PIGEON[5]));
    }

    private static void phrase() {
        Runs.told("Promise 7: Of a WORD 0 CHEER (0 .. 9), 1 what it MEANS (0 .. 255) becomes n: what it was.", SOME,
            "phrase(0, 0, 9) = 2", "phrase(0, 0, 0) = 9", "phrase(11, 0, 9) = 5", "told(10) ! 0", "told(21) ! 9",
            "phrase(0, 1, 255) = 1", "phrase(0, 1, 0) = 255", "phrase(11, 1, 255) = 8", "told(30) ! 0", "told(41) ! 255");
        Runs.told("Promise 7: NONE: word, what; BAD.", SOME,
            each("phrase(#, 0, 1)", "-1", -1, 12, NO_PIGEON[4], NO_PIGEON[5]), each("phrase(#, 1, 256)", "-1", -1, 12),
            each("phrase(#, 0, 10)", "-1", -1, 12), each("phrase(0, #, 1)", "-1", -1, 2, NO_PIGEON[4], NO_PIGEON[5]),
            each("phrase(0, #, 256)", "-1", -1, 2), each("phrase(0, #, -1)", "-1", -1, 2), "phrase(12, 2, 1) ! -1",
            each("phrase(0, 0, #)", "-2", -1, 10, 255, NO_PIGEON[4], NO_PIGEON[5]),
            each("phrase(11, 1, #)", "-2", -1, 256, NO_PIGEON[4], NO_PIGEON[5]));
    }

    private static void row() {
        Runs.told("Promise 8: The ROW of a TOLD one becomes n (0 .. 9) for numbers of WORDS modulo 4 being part: what it was.",
            SOME, "row(0, 0, 0) = 9", "joy(0, 0) ! -2", "row(0, 3, 9) = 0", "row(0, 3, 0) = 9", "row(0, 0, 9) = 0",
            "joy(0, 0) ! 7", "joy(0, 15) ! 10");
        Runs.told("Promise 8: NONE: pigeon, part; BAD; STATE: another KIND.", SOME, each("row(#, 0, 1)", "-1", NO_PIGEON),
            each("row(0, #, 1)", "-1", -1, 4, NO_PIGEON[4], NO_PIGEON[5]), each("row(0, 3, #)", "-2", -1, 10, NO_PIGEON[4]),
            each("row(#, 0, 1)", "-3", 1, 2, 3, 4), each("row(#, 4, 1)", "-1", NO_PIGEON),
            each("row(#, 0, 10)", "-1", NO_PIGEON), each("row(0, #, 10)", "-1", -1, 4), each("row(1, #, 1)", "-1", -1, 4),
            each("row(1, #, 10)", "-1", -1, 4), each("row(1, 0, #)", "-2", -1, 10));
    }

    private static void feed() {
        Runs.told("Promise 9: A sign (0 .. 127) comes behind THE TEXT's: how many it has.", "feed(0) = 1", "feed(127) = 2",
            "count(5) ! 2", "loft() = -10", "feed(114) = 1", "feed \"est\"", "feed(32) = 5", "feed(55) = 6", "loft() = 0",
            "told(1) ! 7", "feed(0) = 1");
        Runs.told("Promise 9: BAD; FULL.", SOME, each("feed(#)", "-2", -1, 128, 256, NO_PIGEON[4], NO_PIGEON[5]),
            "feed(0) * 93", "feed(0) = 100", "feed(0) ! -4", "feed(127) ! -4", "feed(-1) ! -2", "feed(128) ! -2",
            "count(5) ! 100");
    }

    private static void loft() {
        String sentence = "Promise 10: THE TEXT, which is empty then (by a FAULT, too), is a LOFT, and holds: its number.";
        Runs.told(sentence, SOME, "loft() = 2", "count(5) ! 0", "count(1) ! 3", "told(1) ! 6", "loft() = -10", "told(1) ! 6",
            "count(1) ! 3", "loft \"rest 8\" = 3", "loft \"rest 9x\" = -16", "count(5) ! 0", "told(1) ! 8");
        String faults = "Promise 10: FULL: there are 6 (THE TEXT stays); -10 less the FAULT (the one that held holds).";
        Runs.told(faults, FULL, "loft() ! -4", "feed \" 7\"", "loft() ! -4", "count(5) ! 6", "feed \"x\"", "loft() ! -4",
            "count(5) ! 7", "count(1) ! 6", "told(1) ! 6");
        // All is as if nothing had been fed, with what a long FAULT leaves of its CLAUSES, too.
        Runs.same(faults, "pigeon(0, 5) = 0\nloft \"glad 2 p=0;rest 3\" = 0\nloft \"grim 9 p=0;rest 9;glad 8 p=0x\" = -38\n",
            "pigeon(0, 5) = 0\nloft \"glad 2 p=0;rest 3\" = 0\n");
        Runs.same(faults, "pigeon(0, 5) = 0\nloft \"grim 9 p=0;rest 9;\" = -28\nloft \"glad 1 v=1|v=2|v=3|v=4|v=5&\" = -37\n"
            + "loft \"glad 4 v=5\" = 0\n", "pigeon(0, 5) = 0\nloft \"glad 4 v=5\" = 0\n");
        Runs.told(faults, "feed(32) * 100", "loft() = -10", "feed \"rest 1;\"", "loft() = -17", "feed(103) = 1");
        StringBuilder half = new StringBuilder("glad 1 v=1");
        while (half.length() < 94) {
            half.append("|v=1");
        }
        String good = "loft \"glad 4 v=1|v=1|v=1|v=1|v=1|v=1|v=1|v=1|v=5\" = 0\njoy(0, 0) = 4\n";
        Runs.same(faults, "pigeon(0, 5) = 0\nloft \"" + half + "|\" = -105\nloft \"" + half + "&\" = -105\n" + good,
            "pigeon(0, 5) = 0\n" + good);
        StringBuilder late = new StringBuilder("glad 1 p=0");
        while (late.length() < 98) {
            late.append("|p=0");
        }
        Runs.told(faults, "feed \"" + late + "|p\"", "count(5) ! 100", "loft() = -110", "loft \"" + late + "||\" = -109");
        Runs.told("Promise 10: FULL: there are 6", "loft \"rest 1\" = 0", "loft \"rest 2\" = 1", "loft \"rest x\" = -15",
            "loft \"rest 3\" = 2", "loft \"rest 4\" = 3", "loft \"rest 5\" = 4", "image() = 0", "loft \"rest 6\" = 5",
            "loft() ! -4", "told(1) ! 6", "undo() = 0", "told(1) ! 5", "loft() ! -4");
    }

    private static void told() {
        Runs.told("Promise 11: What 0 DAY, 1 REST, 2 KNOWN (bits), 3 who has a LETTER and WILL fly with it (bits), 10 and w CHEER"
            + " of WORD w, 30 and w what it MEANS (bits), 50 and f COMES of FACT f (-5), 60 and w CHEERS of WORD w (bits).", SOME,
            "told(0) ! 1", "told(1) ! 1", "told(2) ! 135", "told(3) ! 9", "told(10) ! 2", "told(13) ! 9", "told(21) ! 5",
            "told(30) ! 1", "told(33) ! 130", "told(41) ! 8", "told(50) ! 0", "told(53) ! 1", "told(56) ! 1", "told(57) ! 0", "told(60) ! 1023",
            "told(66) ! 3", "told(67) ! 127", "told(71) ! 1023");
        Runs.told("Promise 11: NONE.", SOME, each("told(#)", "-1", -1, 4, 9, 22, 29, 42, 49, 58, 59, 72, 73, 100,
            NO_PIGEON[4], NO_PIGEON[5]));
    }

    private static void pass() {
        Runs.told("Promise 12: n DAYS (0 .. 60) go: DAY.", SOME, "pass(0) ! 1", "pass(60) = 61", "pass(1) = 62",
            "told(0) ! 62", "of(0, 4) ! 2", "of(0, 3) ! 0");
        Runs.told("Promise 12: BAD; STATE: it would be above 9999.", SOME, each("pass(#)", "-2", -1, 61, NO_PIGEON[4],
            NO_PIGEON[5]), "pass(60) * 166", "pass(39) ! -3", "pass(60) ! -3", "pass(61) ! -2", "pass(-1) ! -2",
            "pass(38) = 9999", "pass(1) ! -3", "pass(60) ! -3", "pass(61) ! -2", "pass(-1) ! -2", "pass(0) ! 9999",
            "undo() = 2", "pass(1) = 2");
    }

    private static void on() {
        Runs.told("Promise 13: ON: what 0 KNOWN (bits), 10 and p TIRED, 20 and p LETTER of PIGEON p (bits).", SOME,
            "on(0, 0) ! 135", "on(1, 0) ! 255", "on(60, 0) ! 255", "on(0, 10) ! 2", "on(1, 10) ! 4", "on(1, 11) ! 4",
            "on(60, 10) ! 0", "on(0, 14) ! 9", "on(1, 14) ! 9", "on(60, 14) ! 0", "on(0, 20) ! 24", "on(1, 20) ! 0",
            "on(60, 24) ! 0", "on(0, 24) ! 192", "on(60, 22) ! 3");
        Runs.told("Promise 13: NONE; BAD: n.", SOME, each("on(0, #)", "-1", -1, 1, 9, 15, 16, 19, 25, 26, 100, NO_PIGEON[4],
            NO_PIGEON[5]), each("on(61, #)", "-1", -1, 1, 9, 15, 19, 25), each("on(-1, #)", "-1", -1, 1, 15, 25),
            each("on(#, 0)", "-2", -1, 61, NO_PIGEON[4], NO_PIGEON[5]), each("on(#, 10)", "-2", -1, 61),
            each("on(#, 24)", "-2", -1, 61));
        Runs.told("Promise 13: NONE; BAD: n.", "on(0, 0) ! 0", "on(60, 0) ! 0", "on(0, 10) ! -1", "on(0, 20) ! -1",
            "on(61, 20) ! -1", "pigeon(0, 0) * 6", "on(0, 15) ! 0", "on(0, 25) ! 0", "on(0, 16) ! -1", "on(0, 26) ! -1");
    }

    private static void wordingAndBirds() {
        Runs.told("Promise 14: WORDING of FACTS (0 .. 255) for a PIGEON (bits); -5.", SOME, "wording(0, 0) ! 0",
            "wording(0, 255) ! 2173", "wording(2, 0) ! 8", "wording(2, 64) ! 74", "wording(4, 0) ! 0", "wording(4, 255) ! 2173",
            "tire(0, 3) = 2", "phrase(11, 1, 0) = 8", "wording(0, 255) ! -5");
        Runs.told("Promise 14: NONE; BAD.", SOME, each("wording(#, 0)", "-1", NO_PIGEON), each("wording(#, 256)", "-1", NO_PIGEON),
            each("wording(#, -1)", "-1", NO_PIGEON), each("wording(0, #)", "-2", -1, 256, NO_PIGEON[4], NO_PIGEON[5]));
        Runs.told("Promise 15: BIRDS for FACTS (bits); -5.", SOME, "birds(0) ! 0", "birds(6) ! 0", "birds(255) ! -5",
            "birds(144) ! 1", "birds(32) ! 8", "birds(168) ! 8", "birds(56) ! 9", "birds(64) ! -5", "birds(1) ! 0");
        Runs.told("Promise 15: BAD.", SOME, each("birds(#)", "-2", -1, 256, NO_PIGEON[4], NO_PIGEON[5]));
    }

    private static void see() {
        Runs.told("Promise 16: What is SEEN comes: how many there are (pigeon -1: none then, 0, whatever the rest is).", SOME,
            "see(0, 0, true) = 4", "see(4, 4095, false) = 5", "count(2) ! 5", "see(-1, 4096, true) = 0", "count(2) ! 0",
            "see(-1, 0, true) ! 0", "see(-1, -1, false) ! 0", "see(-1, HIGH, false) ! 0", "see(0, 0, false) = 1");
        Runs.same("Promise 16: (pigeon -1: none then, 0, whatever the rest is)", SOME + "see(-1, LOW, true) = 0\n",
            SOME + "see(-1, 3, false) = 0\n");
        Runs.told("Promise 16: NONE; BAD: words; FULL: 5.", SOME, each("see(#, 0, true)", "-1", -2, 5, 6, NO_PIGEON[4],
            NO_PIGEON[5]), each("see(#, 4096, true)", "-1", -2, 5), each("see(0, #, false)", "-2", -1, 4096, NO_PIGEON[4],
            NO_PIGEON[5]));
        Runs.told("Promise 16: NONE; BAD: words; FULL: 5.", FULL, "see(0, 0, true) ! -4", "see(5, 4095, false) ! -4",
            each("see(#, 0, true)", "-1", -2, 6), each("see(#, 4096, true)", "-1", -2, 6),
            each("see(0, #, true)", "-2", -1, 4096), "see(-1, 4096, true) = 0", "see(5, 4095, false) = 1");
    }

    private static void canOddsMean() {
        Runs.told("Promise 17: CAN: what 0 how many, 1 the least; -5.", SOME, "can(0, 0) ! 10", "can(0, 1) ! 0",
            "can(1, 0) ! 5", "can(1, 1) ! 5", "see(2, 0, true) = 4", "can(0, 0) ! 0", "can(0, 1) ! -5", "can(2, 0) ! 5",
            "can(2, 1) ! 5");
        Runs.told("Promise 17: NONE.", SOME, each("can(#, 0)", "-1", NO_PIGEON), each("can(#, 1)", "-1", NO_PIGEON),
            each("can(0, #)", "-1", -1, 2, NO_PIGEON[4], NO_PIGEON[5]), "can(5, 2) ! -1");
        Runs.told("Promise 18: ODDS; part 0 above, 1 below the line.", SOME, "odds(0, 0) ! 1", "odds(0, 1) ! 6",
            "odds(3, 0) ! 1", "odds(3, 1) ! 1", "odds(4, 0) ! 1", "odds(4, 1) ! 12");
        Runs.told("Promise 18: NO: pigeon, part.", SOME, each("odds(#, 0)", "NO", NO_PIGEON), each("odds(#, 1)", "NO", NO_PIGEON),
            each("odds(0, #)", "NO", -1, 2, NO_PIGEON[4], NO_PIGEON[5]), "odds(5, 2) ! NO");
        Runs.told("Promise 19: MEAN; part likewise.", SOME, "mean(0) ! 5", "mean(1) ! 1", "letter(2, 0) = 3",
            "mean(0) ! 20", "mean(1) ! 3");
        Runs.told("Promise 19: NO.", "mean(0) ! NO", "mean(1) ! NO", SOME, each("mean(#)", "NO", -1, 2, NO_PIGEON[4],
            NO_PIGEON[5]), "letter(0, 0) = 24", "letter(2, 0) = 3", "letter(3, 0) = 2080", "mean(0) ! 0", "mean(1) ! 1", "letter(4, 0) = 192",
            "mean(0) ! NO", "mean(1) ! NO", "mean(2) ! NO");
    }

    private static void plan() {
        Runs.told("Promise 20: A row comes to the PLAN: how many there are (what -1: it is empty then, 0, whatever the rest is).",
            SOME, "plan(1, 0) = 5", "plan(2, 4) = 6", "plan(3, 11) = 7", "plan(3, 0) = 8", "plan(0, HIGH) = 9",
            "plan(0, -1) = 10", "plan(-1, 99) = 0", "plan(-1, 0) ! 0", "plan(-1, LOW) ! 0", "count(3) ! 0", "plan(0, 12) = 1");
        Runs.same("Promise 20: (what -1: it is empty then, 0, whatever the rest is)", SOME + "plan(-1, LOW) = 0\n",
            SOME + "plan(-1, 0) = 0\n");
        Runs.same("Promise 20: by 0 n does not matter", SOME + "plan(0, LOW) = 5\nplan(0, 99) = 6\n",
            SOME + "plan(0, 0) = 5\nplan(0, 0) = 6\n");
        String sentence = "Promise 20: NONE: what (0 .. 3), pigeon (by 1, 2), word (by 3; by 0 n does not matter); FULL: 10.";
        Runs.told(sentence, SOME, each("plan(#, 0)", "-1", -2, 4, NO_PIGEON[4], NO_PIGEON[5]), each("plan(1, #)", "-1", NO_PIGEON),
            each("plan(2, #)", "-1", NO_PIGEON), each("plan(3, #)", "-1", -1, 12, NO_PIGEON[4], NO_PIGEON[5]),
            "plan(4, 12) ! -1", "plan(3, 5) = 5", "plan(3, 6) = 6");
        Runs.told(sentence, FULL, "plan(0, 0) ! -4", "plan(0, LOW) ! -4", "plan(1, 5) ! -4", "plan(2, 0) ! -4", "plan(3, 11) ! -4",
            "plan(-2, 0) ! -1", "plan(4, 0) ! -1", "plan(1, 6) ! -1", "plan(2, -1) ! -1", "plan(3, 12) ! -1", "plan(3, -1) ! -1",
            "count(3) ! 10", "plan(-1, 0) = 0", "plan(1, 5) = 1");
    }

    private static void ends() {
        Runs.told("Promise 21: ENDS: what 0 KNOWN, 1 FLOWN.", SOME, "ends(0) ! 255", "ends(1) ! 5", "plan(-1, 0) = 0",
            "ends(0) ! 135", "ends(1) ! 2", "plan(1, 0) = 1", "plan(0, 0) = 2", "ends(0) ! 239", "ends(1) ! 4");
        Runs.told("Promise 21: NONE.", SOME, each("ends(#)", "-1", -1, 2, NO_PIGEON[4], NO_PIGEON[5]));
    }

    private static void book() {
        Runs.told("Promise 22: A row comes to the BOOK: how many there are (word -1: it is empty then, 0, whatever the rest is).",
            SOME, "book(0, 0) = 4", "book(11, 9) = 5", "book(11, 0) = 6", "book(-1, 10) = 0", "count(4) ! 0", "book(-1, 0) ! 0",
            "book(-1, LOW) ! 0", "book(11, 9) = 1");
        Runs.same("Promise 22: (word -1: it is empty then, 0, whatever the rest is)", SOME + "book(-1, HIGH) = 0\n",
            SOME + "book(-1, 5) = 0\n");
        Runs.told("Promise 22: NONE; BAD: cheer; FULL: 8.", SOME, each("book(#, 5)", "-1", -2, 12, NO_PIGEON[4], NO_PIGEON[5]),
            each("book(#, 10)", "-1", -2, 12), each("book(#, -1)", "-1", -2, 12), each("book(0, #)", "-2", -1, 10, NO_PIGEON[4],
            NO_PIGEON[5]));
        Runs.told("Promise 22: NONE; BAD: cheer; FULL: 8.", FULL, "book(0, 0) ! -4", "book(11, 9) ! -4",
            each("book(#, 5)", "-1", -2, 12), each("book(#, 10)", "-1", -2, 12), each("book(0, #)", "-2", -1, 10),
            "count(4) ! 8", "book(-1, 10) = 0", "book(11, 5) = 1");
        Runs.told("Promise 23: LOOKED at; -5.", "looked() ! -5", SOME, "looked() ! 0", "phrase(7, 0, 7) = 5", "looked() ! 2",
            "phrase(0, 0, 3) = 2", "looked() ! -5", "phrase(3, 0, 0) = 9", "looked() ! 1", "book(-1, 0) = 0", "looked() ! -5");
    }

    /** TAPE 2 tells the CHEER of all WORDS of SOME, but for WORD 3 and WORD 0 (0), and WORD 6 (5). */
    private static String cheerRow() {
        StringBuilder text = new StringBuilder();
        for (int w = 0; w < 12; w++) {
            text.append("item(2, " + w + ", " + (w == 0 || w == 3 ? 0 : 5) + ") = 1\n");
        }
        return text.toString();
    }

    private static void judge() {
        Runs.told("Promise 24: JUDGED from place i of a TAPE on.", SOME, "judge(2, 0) ! 0", "judge(2, 1) ! 1", "judge(2, 4) ! 0",
            "judge(2, 5) ! 100", "judge(2, 6) ! 100", "judge(2, -1) ! 100", "item(2, 4, 2) = 1", "judge(2, 4) ! 101",
            "judge(5, 0) ! 100", "judge(5, -1) ! 100", "judge(5, HIGH) ! 100", "tape(2, 2, 13) = 1", "phrase(3, 0, 0) = 9",
            "phrase(0, 0, 0) = 2", "phrase(6, 0, 5) = 0", "item(2, 2, 5) * 1", "item(2, 3, 5) * 1", "judge(2, 0) ! 1",
            "judge(2, 1) ! 4", cheerRow(), "judge(2, 0) ! -5", "judge(2, 1) ! 0", "judge(2, 12) ! 101");
        Runs.told("Promise 24: NONE: tape; CAST: it is no row of ints.", SOME, each("judge(#, 0)", "-1", -1, 6, NO_PIGEON[4],
            NO_PIGEON[5]), each("judge(#, -1)", "-1", -1, 6), each("judge(#, 0)", "-12", 0, 1, 3, 4),
            each("judge(#, -1)", "-12", 0, 1, 3, 4), each("judge(#, 60)", "-12", 0, 1, 3, 4));
    }

    private static void imageAndUndo() {
        Runs.told("Promise 25: THE IMAGE is taken: how many PIGEONS there are.", "image() = 0", SOME.replace("image() = 2", ""),
            "image() = 5", "pigeon(0, 0) = 5", "image() = 6", "undo() ! 6");
        Runs.told("Promise 26: STATE: there is none.", "undo() ! -3", SOME.replace("image() = 2", ""), "undo() ! -3",
            "undo() ! -3", "image() = 5", "undo() ! 5");
        Runs.same("Promise 26: All is as THE IMAGE: how many PIGEONS.", "pigeon(6, 3) = 0\nrow(0, 0, 2) = 0\nimage() = 1\n"
            + "row(0, 0, 9) = 2\npigeon(6, 4) = 1\nrow(1, 0, 9) = 0\nletter(1, 7) = 0\ntire(1, 5) = 0\npass(3) = 3\nundo() = 1\n"
            + "pigeon(6, 1) = 1\n", "pigeon(6, 3) = 0\nrow(0, 0, 2) = 0\nimage() = 1\npigeon(6, 1) = 1\n");
        Runs.told("Promise 26: All is as THE IMAGE: how many PIGEONS.", SOME, "undo() = 2", "count(0) ! 2", "of(2, 0) ! -1",
            "undo() ! 2", "told(0) ! 1", "told(1) ! 2", "told(2) ! 135", "count(2) ! 1", "count(3) ! 1", "count(4) ! 1",
            "count(1) ! 2", "count(5) ! 6", "count(6) ! 12", "read(0, 2) ! -7", "told(16) ! 5", "of(0, 2) ! 0", "loft() = 2",
            "undo() = 2", "told(1) ! 2");
    }

    private static void acts() {
        Runs.told("Promise 27: An ACT (0 coos, 1 flies, 2 tells) of a PIGEON with x.", SOME, "act(1, 0, 5) = 6",
            "act(1, 1, 5) = -8", "act(1, 2, 5) = -16", "act(1, 2, 5) ! -16");
        for (int p : NO_PIGEON) {
            Runs.same("Promise 27: 0, and no TRACE then: no such PIGEON, act.", SOME + "act(" + p + ", 0, 7) = 0\n",
                SOME + "act(0, 3, 7) = 0\n");
        }
        Runs.told("Promise 27: 0, and no TRACE then: no such PIGEON, act.", "act(0, 0, 7) ! 0", SOME, "count(6) ! 12",
            "act(0, -1, 7) = 0", "count(6) ! 0", each("trace(#)", "-1", upTo(-1, 20)), "act(0, 0, 7) = 4", "count(6) ! 2",
            "act(5, 0, 7) = 0", "count(6) ! 0", "act(0, 0, 7) = 4", "act(0, 3, 7) = 0", "trace(0) ! -1", "act(5, 3, 7) ! 0",
            "act(LOW, HIGH, 7) ! 0");
        Runs.told("Promise 28: THE TRACE's i-th body.", SOME, "trace(0) ! 40", "trace(1) ! 12", "trace(11) ! 10");
        Runs.told("Promise 28: NONE.", "trace(0) ! -1", SOME, each("trace(#)", "-1", -1, 12, 13, 19, 20, 21, NO_PIGEON[4],
            NO_PIGEON[5]), "act(0, 0, 7) = 4", "trace(1) ! 10", "trace(2) ! -1", "act(0, 5, 0) = 0", "trace(0) ! -1");
        Runs.told("Promise 29: A PIGEON taken for one of KIND k (0 .. 6), or one under that: its KIND.", SOME, "taken(0, 0) ! 6",
            "taken(0, 3) ! 6", "taken(0, 6) ! 6", "taken(1, 1) ! 1", "taken(3, 1) ! 4", "taken(4, 2) ! 5");
        Runs.told("Promise 29: BAD: k; NOTHING: no such PIGEON; CAST.", SOME, each("taken(0, #)", "-2", -1, 7, NO_PIGEON[4],
            NO_PIGEON[5]), each("taken(#, 0)", "-11", NO_PIGEON), each("taken(#, 6)", "-11", NO_PIGEON),
            each("taken(#, 7)", "-2", NO_PIGEON), each("taken(#, -1)", "-2", NO_PIGEON), each("taken(0, #)", "-12", 1, 2, 4, 5),
            each("taken(1, #)", "-12", 2, 3, 4, 5, 6), each("taken(3, #)", "-12", 2, 3, 5, 6));
    }

    /** What a call has done is taken back by others: behind that all is as it was, so it has done nothing else. */
    private static void thereAndBack() {
        String sentence = "Not promised: Nothing is promised beyond the answers and state changes described above";
        String seen = "see(-1, 0, true) = 0\nsee(1, 4, true) = 1\nsee(0, 24, true) = 2\nsee(4, 192, false) = 3\n";
        String plans = "plan(-1, 0) = 0\nplan(0, 0) = 1\nplan(3, 5) = 2\nplan(2, 4) = 3\nplan(0, 0) = 4\n";
        String books = "book(-1, 0) = 0\nbook(7, 7) = 1\nbook(3, 9) = 2\nbook(0, 3) = 3\n";
        String[] ways = {"letter(0, 4095) = 24\nletter(0, 24) = 4095", "tire(0, 9) = 2\ntire(0, 2) = 9",
            "phrase(6, 0, 9) = 0\nphrase(6, 0, 0) = 9", "phrase(10, 1, 0) = 4\nphrase(10, 1, 4) = 0",
            "row(0, 3, 9) = 0\nrow(0, 3, 0) = 9", "feed(59) = 7\nloft() = -17\nfeed \"rest 6\"",
            "item(2, 0, 9) = 1\nitem(2, 0, 0) = 1", "tape(5, 2, 4) = 1\ntape(5, -1, 0) = 1",
            "shift(2, 0, 2, 1, 1) = 1\nitem(2, 1, 2) = 1", "act(1, 0, 5) = 6\nact(0, 2, 5) = 11",
            "act(0, 1, 5) = 5\nact(9, 0, 5) = 0\nact(0, 2, 5) = 11", "see(2, 0, true) = 4\n" + seen, seen,
            "plan(1, 0) = 5\n" + plans, plans, "book(1, 1) = 4\n" + books, books};
        for (String way : ways) {
            Runs.same(sentence, SOME + way, SOME);
        }
        for (String way : new String[] {"pass(3) = 4", "pigeon(6, 0) = 5\nrow(5, 3, 9) = 0\nletter(5, 3) = 0", "image() = 5"}) {
            Runs.same(sentence, SOME + "image() = 5\n" + way + "\nundo() = 5\n", SOME + "image() = 5\n");
        }
    }

    /** Whatever is asked, with all numbers that are taken and those beside them, in three states. */
    private static void asksChangeNothing() {
        StringBuilder text = new StringBuilder();
        for (int p = -1; p <= 6; p++) {
            for (String call : new String[] {"of(" + p + ", 6)", "of(" + p + ", 5)", "joy(" + p + ", 4095)", "on(60, " + (10 + p)
                + ")", "on(7, " + (20 + p) + ")", "wording(" + p + ", 37)", "can(" + p + ", 0)", "can(" + p + ", 1)", "odds(" + p
                + ", 0)", "odds(" + p + ", 1)", "taken(" + p + ", 1)", "judge(" + p + ", 1)", "read(" + p + ", 2)"}) {
                text.append(call).append(" ~\n");
            }
        }
        for (int what = -1; what <= 73; what++) {
            text.append("told(" + what + ") ~\n");
        }
        for (int what = -1; what <= 7; what++) {
            for (String call : new String[] {"birds", "mean", "ends", "trace", "count"}) {
                text.append(call + "(" + what + ") ~\n");
            }
        }
        text.append("on(60, 0) ~\non(1, 0) ~\nlooked() ~\n");
        for (String state : new String[] {"", SOME, FULL}) {
            Runs.told("Terms: What is answered so changes nothing; what is asked changes nothing.", state, text.toString());
        }
    }

    private static void count() {
        Runs.told("Promise 30: How many: 0 PIGEONS, 1 LOFTS, 2 SEEN, 3 of the PLAN, 4 of the BOOK, 5 bytes of THE TEXT, 6 bodies"
            + " that ran in the latest act() (all, kept or not).", each("count(#)", "0", upTo(0, 6)), SOME, "count(0) ! 5",
            "count(1) ! 2", "count(2) ! 3", "count(3) ! 4", "count(4) ! 3", "count(5) ! 6", "count(6) ! 12");
        Runs.told("Promise 30: 0 PIGEONS, 1 LOFTS, 2 SEEN, 3 of the PLAN, 4 of the BOOK", FULL, "count(0) ! 6", "count(1) ! 6",
            "count(2) ! 5", "count(3) ! 10", "count(4) ! 8", "count(5) ! 4", "feed(1) * 96", "count(5) ! 100");
        Runs.told("Promise 30: BAD.", SOME, each("count(#)", "-2", -1, 7, NO_PIGEON[4], NO_PIGEON[5]));
    }

    private static void tape() {
        Runs.told("Promise 31: A TAPE becomes a row of n (0 .. 60) of a sort, all 0, or holds nothing (sort -1: n does not"
            + " matter): 1.", SOME, "tape(0, 3, 60) = 1", each("read(0, #)", "0", upTo(0, 59)), "read(0, 60) ! NO",
            "item(0, 59, 5) = 1", "item(0, 0, 5) = 1", "tape(0, 3, 60) = 1", "read(0, 0) ! 0", "read(0, 59) ! 0",
            "tape(0, 3, 60) ! 1", "tape(0, 4, 0) = 1", "read(0, 0) ! NO", "item(0, 0, 1) ! -13", "tape(5, 0, 1) = 1",
            "read(5, 0) ! 0", "read(5, 1) ! NO", "tape(5, -1, 61) = 1", "item(5, 0, 1) ! -11", "tape(5, -1, -1) ! 1",
            "tape(5, -1, HIGH) ! 1", "tape(5, -1, LOW) ! 1", "tape(5, 2, 2) = 1", "read(5, 1) ! 0");
        for (String n : new String[] {"LOW", "-1", "0", "60", "61", "HIGH"}) {
            Runs.same("Promise 31: or holds nothing (sort -1: n does not matter): 1.", SOME + "tape(2, -1, " + n + ") = 1\n",
                SOME + "tape(2, -1, 1) = 1\n");
        }
        Runs.told("Promise 31: NONE: tape; BAD: sort, n above 60; SIZE.", SOME, each("tape(#, 0, 1)", "-1", -1, 6, NO_PIGEON[4],
            NO_PIGEON[5]), each("tape(#, 5, 1)", "-1", -1, 6), each("tape(#, 0, 61)", "-1", -1, 6), each("tape(#, 0, -1)", "-1",
            -1, 6), each("tape(#, -1, 0)", "-1", -1, 6), each("tape(3, #, 1)", "-2", -2, 5, NO_PIGEON[4], NO_PIGEON[5]),
            each("tape(3, 3, #)", "-2", 61, NO_PIGEON[4]), each("tape(3, 3, #)", "-14", -1, NO_PIGEON[5]),
            each("tape(3, #, -1)", "-2", -2, 5), each("tape(3, #, 61)", "-2", -2, 5), each("tape(3, #, -1)", "-14", upTo(0, 4)),
            each("tape(5, #, 61)", "-2", upTo(0, 4)));
    }

    private static String stored(int tape, int place, String v, String read) {
        return "item(" + tape + ", " + place + ", " + v + ") = 1\nread(" + tape + ", " + place + ") ! " + read + "\n";
    }

    private static void itemAndRead() {
        String sentence = "Promise 32: Item i of a TAPE becomes v (its lowest bits, as many as an item has; booleans: whether v is"
            + " not 0): 1.";
        Runs.told(sentence, SOME, stored(0, 0, "127", "127"), stored(0, 0, "128", "-128"), stored(0, 2, "255", "-1"),
            stored(0, 2, "256", "0"), stored(0, 2, "-128", "-128"), stored(0, 2, "-129", "127"), stored(0, 2, "MAX", "-1"),
            stored(0, 2, "NO", "0"), stored(2, 0, "2147483647", "2147483647"), stored(2, 4, "2147483648", "LOW"),
            stored(2, 4, "4294967295", "-1"), stored(2, 4, "4294967296", "0"), stored(2, 4, "-2147483649", "HIGH"),
            stored(3, 0, "MAX", "MAX"), stored(3, 3, "NO", "NO"), stored(3, 3, "-1", "-1"));
        Runs.told(sentence, SOME, "tape(1, 1, 2) = 1", stored(1, 0, "32767", "32767"), stored(1, 1, "32768", "-32768"),
            stored(1, 1, "65535", "-1"), stored(1, 1, "65536", "0"), stored(1, 1, "-32769", "32767"), "read(1, 0) ! 32767",
            stored(4, 0, "1", "1"), stored(4, 59, "0", "0"), stored(4, 59, "2", "1"), stored(4, 59, "-1", "1"),
            stored(4, 59, "256", "1"), stored(4, 59, "4294967296", "1"), stored(4, 59, "NO", "1"), stored(4, 59, "0", "0"));
        Runs.told("Promise 32: NONE; NOTHING; PLACE.", SOME, each("item(#, 0, 1)", "-1", -1, 6, NO_PIGEON[4], NO_PIGEON[5]),
            each("item(#, -1, 1)", "-1", -1, 6), each("item(5, #, 1)", "-11", -1, 0, 60, NO_PIGEON[4], NO_PIGEON[5]),
            each("item(0, #, 1)", "-13", -1, 3, NO_PIGEON[4], NO_PIGEON[5]), each("item(1, #, 1)", "-13", -1, 0),
            each("item(4, #, 1)", "-13", -1, 60));
        Runs.told("Promise 33: Item i of a TAPE.", SOME, "read(0, 0) ! 0", "read(0, 2) ! -7", "read(3, 3) ! NO",
            "read(3, 2) ! 0", "read(4, 59) ! 1", "read(4, 58) ! 0");
        Runs.told("Promise 33: NO: no such TAPE, nothing there, no such place.", SOME, each("read(#, 0)", "NO", -1, 6, NO_PIGEON[4],
            NO_PIGEON[5]), each("read(5, #)", "NO", -1, 0, 59), each("read(0, #)", "NO", -1, 3, NO_PIGEON[4], NO_PIGEON[5]),
            each("read(1, #)", "NO", -1, 0), each("read(4, #)", "NO", -1, 60));
    }

    /** TAPE 0 holds 1 .. 6, TAPE 1 four shorts, TAPE 2 four ints, TAPE 3 no shorts, TAPE 5 nothing. */
    private static final String ROWS = SOME + """
        tape(0, 1, 6) = 1
        tape(1, 1, 4) = 1
        tape(2, 2, 4) = 1
        tape(3, 1, 0) = 1
        item(0, 0, 1) = 1
        item(0, 1, 2) = 1
        item(0, 2, 3) = 1
        item(0, 3, 4) = 1
        item(0, 4, 5) = 1
        item(0, 5, 6) = 1
        item(1, 0, 9) = 1
        """;

    private static String row(int tape, int... items) {
        StringBuilder text = new StringBuilder();
        for (int i = 0; i < items.length; i++) {
            text.append("read(" + tape + ", " + i + ") ! " + items[i] + "\n");
        }
        return text.toString();
    }

    private static void shift() {
        String sentence = "Promise 34: n items of a TAPE from i on come to another one (or the same) from j on, as they all were"
            + " before: n.";
        Runs.told(sentence, ROWS, "shift(0, 0, 0, 2, 4) = 4", row(0, 1, 2, 1, 2, 3, 4));
        Runs.told(sentence, ROWS, "shift(0, 2, 0, 0, 4) = 4", row(0, 3, 4, 5, 6, 5, 6));
        Runs.told(sentence, ROWS, "shift(0, 0, 0, 1, 5) = 5", row(0, 1, 1, 2, 3, 4, 5));
        Runs.told(sentence, ROWS, "shift(0, 0, 0, 0, 6) ! 6", "shift(0, 2, 1, 0, 4) = 4", row(1, 3, 4, 5, 6),
            row(0, 1, 2, 3, 4, 5, 6), "shift(1, 3, 0, 5, 1) ! 1", "shift(1, 0, 0, 5, 1) = 1", row(0, 1, 2, 3, 4, 5, 3));
        Runs.told(sentence, ROWS, "shift(0, 0, 0, 0, 0) ! 0", "shift(0, 6, 1, 4, 0) ! 0", "shift(3, 0, 3, 0, 0) ! 0",
            "shift(3, 0, 1, 4, 0) ! 0", "tape(4, 4, 60) = 1", "item(4, 0, 1) = 1", "shift(4, 0, 4, 59, 1) = 1",
            "read(4, 59) ! 1", "tape(4, 3, 60) = 1", "item(4, 59, NO) = 1", "shift(4, 59, 4, 0, 1) = 1", "read(4, 0) ! NO",
            "shift(4, 0, 4, 0, 60) ! 60");
        String refusals = "Promise 34: NONE: tapes; NOTHING; CAST: of unlike sorts; PLACE: n, i or j is below 0, or beyond either's"
            + " end.";
        Runs.told(refusals, ROWS, each("shift(#, 0, 0, 0, 1)", "-1", -1, 6, NO_PIGEON[4], NO_PIGEON[5]),
            each("shift(0, 0, #, 0, 1)", "-1", -1, 6, NO_PIGEON[4], NO_PIGEON[5]), each("shift(#, 0, 5, 0, 1)", "-1", -1, 6),
            each("shift(5, 0, #, 0, 1)", "-1", -1, 6), each("shift(#, -1, 0, 0, 1)", "-1", -1, 6), "shift(0, 0, 6, 0, -1) ! -1",
            "shift(5, 0, 0, 0, 1) ! -11", "shift(0, 0, 5, 0, 1) ! -11", "shift(5, 0, 4, 0, 0) ! -11", "shift(5, 0, 5, 0, 0) ! -11",
            "shift(5, -1, 0, 0, 1) ! -11", "shift(0, 0, 5, 0, -1) ! -11", "shift(0, 0, 5, -1, 1) ! -11");
        Runs.told(refusals, ROWS, "shift(0, 0, 2, 0, 1) ! -12", "shift(2, 0, 1, 0, 1) ! -12", "shift(0, 0, 2, 0, 0) ! -12",
            "shift(0, -1, 2, 0, 1) ! -12", "shift(0, 0, 2, 0, -1) ! -12", "shift(0, 0, 2, 0, 9) ! -12", "tape(4, 0, 2) = 1",
            "tape(5, 4, 2) = 1", "shift(4, 0, 5, 0, 1) ! -12", "shift(5, 0, 4, 0, 1) ! -12", "tape(4, 3, 2) = 1",
            "shift(4, 0, 2, 0, 1) ! -12");
        Runs.told(refusals, ROWS, each("shift(0, #, 1, 0, 1)", "-13", -1, 6, NO_PIGEON[4], NO_PIGEON[5]),
            each("shift(0, 0, 1, #, 1)", "-13", -1, 4, NO_PIGEON[4], NO_PIGEON[5]),
            each("shift(0, 0, 1, 0, #)", "-13", -1, 5, NO_PIGEON[4], NO_PIGEON[5]), "shift(1, 0, 0, 0, 5) ! -13",
            each("shift(0, 1, 1, 1, #)", "-13", -1, 4, NO_PIGEON[4], NO_PIGEON[5]), "shift(0, 1, 1, 1, 3) = 3",
            "shift(0, 7, 1, 0, 0) ! -13", "shift(0, 0, 1, 5, 0) ! -13", "shift(0, 3, 1, 0, 4) ! -13", "shift(0, 0, 0, 1, 6) ! -13",
            "shift(0, 1, 0, 0, 6) ! -13", "shift(3, 0, 3, 0, 1) ! -13", "shift(3, 0, 3, 1, 0) ! -13", "shift(3, 1, 3, 0, 0) ! -13",
            "shift(0, HIGH, 1, 0, HIGH) ! -13", "shift(0, 1, 1, HIGH, HIGH) ! -13", "shift(0, LOW, 1, LOW, LOW) ! -13",
            "shift(0, -1, 1, 0, 0) ! -13", "shift(0, 0, 1, -1, 0) ! -13");
    }

    public static void main(String[] args) {
        newObject();
        pigeon();
        of();
        joy();
        letter();
        tire();
        phrase();
        row();
        feed();
        loft();
        told();
        pass();
        on();
        wordingAndBirds();
        see();
        canOddsMean();
        plan();
        ends();
        book();
        judge();
        imageAndUndo();
        acts();
        asksChangeNothing();
        thereAndBack();
        count();
        tape();
        itemAndRead();
        shift();
        Runs.ends();
    }
}
