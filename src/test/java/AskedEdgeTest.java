/** The boundary cases of DAYS, of all that is asked, of ACTS, THE IMAGE and TAPES, as the Terms name them. */
public final class AskedEdgeTest {
    /** Six OLD ones, each waits for a FACT that the one behind it brings when DAY modulo 10 is 9: FACT 0 comes by 60. */
    private static final String CHAIN = """
        phrase(0, 0, 0) = 5
        phrase(1, 0, 0) = 5
        phrase(2, 0, 0) = 5
        phrase(3, 0, 2) = 5
        phrase(4, 0, 4) = 5
        phrase(5, 0, 6) = 5
        phrase(8, 0, 0) = 5
        phrase(9, 0, 2) = 5
        pigeon(5, 0) * 6
        letter(0, 257) = 0
        letter(1, 514) = 0
        letter(2, 4) = 0
        letter(3, 8) = 0
        letter(4, 16) = 0
        letter(5, 32) = 0
        loft "grim 90 d<9" = 0
        """;

    private static final String CHEER_FOUR = cheers(0, 11, 4);

    private static String cheers(int from, int to, int cheer) {
        StringBuilder text = new StringBuilder();
        for (int w = from; w <= to; w++) {
            text.append("phrase(" + w + ", 0, " + cheer + ") * 1\n");
        }
        return text.toString();
    }

    private static void daysInOrder() {
        Runs.told("Terms: A DAY goes, one behind the other by number: each PIGEON with a LETTER, by how all is then, flies,"
            + " if it WILL: all FACTS that any of the WORDS MEANS are KNOWN, too, it has no LETTER any more", """
            pigeon(5, 0) = 0
            pigeon(0, 0) = 1
            pigeon(5, 0) = 2
            letter(0, 1) = 0
            letter(1, 2) = 0
            letter(2, 4) = 0
            told(3) ! 2
            pass(1) = 1
            told(2) ! 6
            of(0, 2) ! 1
            of(1, 2) ! 0
            of(2, 2) ! 0
            of(0, 4) ! 0
            of(1, 4) ! 1
            of(2, 4) ! 1
            pass(1) = 2
            told(2) ! 7
            of(0, 2) ! 0
            """);
        Runs.told("Terms: all FACTS that any of the WORDS MEANS are KNOWN, too", """
            pigeon(1, 9) = 0
            phrase(0, 1, 0) = 1
            phrase(1, 1, 255) = 2
            phrase(2, 1, 6) = 4
            letter(0, 1) = 0
            pass(1) = 1
            told(2) ! 0
            of(0, 4) ! 1
            letter(0, 5) = 0
            pass(1) = 2
            told(2) ! 6
            letter(0, 9) = 0
            pass(1) = 3
            told(2) ! 14
            letter(0, 2) = 0
            pass(1) = 4
            told(2) ! 255
            """);
        Runs.told("Terms: DAY is 1 more.", "told(0) ! 0", "pass(1) = 1", "told(0) ! 1", "pass(2) = 3", "told(0) ! 3");
    }

    private static void tiredAndRest() {
        StringBuilder flying = new StringBuilder("pigeon(1, 9) = 0\nloft \"glad 50 p=0;rest 99\" = 0\n");
        for (int tired = 0; tired <= 9; tired++) {
            flying.append("tire(0, " + tired + ") * 1\nletter(0, 1) = 0\npass(1) = " + (tired + 1) + "\n");
            flying.append("of(0, 3) ! " + Math.min(9, tired + 2) + "\nof(0, 4) ! " + (tired + 1) + "\nof(0, 2) ! 0\n");
        }
        Runs.told("Terms: TIRED is 2 more (9 at most), FLOWN 1 more (9999 at most)", flying.toString());
        String sentence = "Terms: if it will not, it keeps its LETTER; TIRED of that one, and of each one that had no LETTER"
            + " ahead of this, is REST less (0 at least), not of one that flew.";
        for (int rest : new int[] {0, 1, 2, 8, 9, 10, 99}) {
            StringBuilder text = new StringBuilder("pigeon(0, 0) * 3\nloft \"grim 99 p=1;glad 99 p=2;rest " + rest + "\" = 0\n");
            text.append("letter(1, 1) = 0\n");
            int day = 0;
            for (int tired : new int[] {0, 1, 2, 8, 9}) {
                text.append("tire(0, " + tired + ") * 1\ntire(1, " + tired + ") * 1\ntire(2, " + tired + ") * 1\n");
                day++;
                text.append("letter(2, 2) = 0\npass(1) = " + day + "\n");
                text.append("of(0, 3) ! " + Math.max(0, tired - rest) + "\nof(1, 3) ! " + Math.max(0, tired - rest) + "\n");
                text.append("of(1, 2) ! 1\nof(2, 2) ! 0\nof(2, 3) ! " + Math.min(9, tired + 2) + "\nof(1, 4) ! 0\n");
            }
            Runs.told(sentence, text.toString());
        }
    }

    /**
     * FLOWN at 9999. What 512 calls can't reach is not promised, so this is no run of Runs: it only looks at whether the
     * class keeps to the sentences where it is used for longer.
     */
    private static void mostFlown() {
        GoodNewsPigeons x = new GoodNewsPigeons();
        x.pigeon(1, 9);
        x.feed('g');
        for (char sign : "lad 50 p=0".toCharArray()) {
            x.feed(sign);
        }
        x.loft();
        x.image();
        for (int day = 0; day < 9998; day++) {
            x.letter(0, 1);
            x.pass(1);
        }
        String flown = "Terms: FLOWN 1 more (9999 at most)";
        Runs.due(flown, "FLOWN", x.of(0, 4), 9998);
        x.letter(0, 1);
        x.plan(0, 0);
        Runs.due(flown, "FLOWN asked for", x.ends(1), 9999);
        x.pass(1);
        Runs.due(flown, "FLOWN", x.of(0, 4), 9999);
        Runs.due("Promise 12: STATE: it would be above 9999.", "pass(1)", x.pass(1), -3);
        x.letter(0, 1);
        Runs.due("Terms: (DAYS, FLOWN beyond 9999, too)", "FLOWN asked for", x.ends(1), 10000);
        Runs.due("Terms: (DAYS, FLOWN beyond 9999, too)", "FLOWN", x.of(0, 4), 9999);
    }

    private static void beyondTheLastDay() {
        Runs.told("Terms: All that follows is asked, goes on from how all is (DAYS, FLOWN beyond 9999, too), and changes"
            + " nothing.", """
            pass(60) * 166
            pass(38) = 9998
            pigeon(0, 0) = 0
            letter(0, 1) = 0
            loft "grim 50 !d=3;rest 2" = 0
            tire(0, 9) = 0
            plan(0, 0) = 1
            plan(2, 0) = 2
            plan(0, 0) * 4
            ends(0) ! 0
            plan(0, 0) = 7
            ends(0) ! 1
            ends(1) ! 1
            on(5, 20) ! 1
            on(6, 20) ! 0
            on(4, 10) ! 1
            on(5, 10) ! 0
            tire(0, 0) = 9
            on(5, 20) ! 1
            on(6, 20) ! 0
            on(60, 0) ! 1
            told(50) ! 6
            told(0) ! 9998
            pass(2) ! -3
            pass(1) = 9999
            pass(1) ! -3
            told(50) ! 5
            on(4, 0) ! 0
            on(5, 0) ! 1
            pass(0) = 9999
            """);
    }

    private static void onAndComes() {
        Runs.told("Terms: ON n DAYS (0 .. 60): what is KNOWN; TIRED of one; LETTER of one.", CHAIN, """
            tire(4, 9) = 0
            on(-1, 0) ! -2
            on(61, 0) ! -2
            on(0, 0) ! 0
            on(9, 0) ! 0
            on(10, 0) ! 32
            on(59, 0) ! 62
            on(60, 0) ! 63
            on(0, 14) ! 9
            on(1, 14) ! 8
            on(9, 14) ! 0
            on(20, 14) ! 2
            on(0, 20) ! 257
            on(59, 20) ! 257
            on(60, 20) ! 0
            on(60, 10) ! 2
            on(59, 10) ! 0
            """);
        Runs.told("Terms: COMES of a FACT: the fewest DAYS (0 .. 60) behind which it is KNOWN (-5: not by then).", CHAIN, """
            told(55) ! 10
            told(54) ! 20
            told(51) ! 50
            told(50) ! 60
            told(56) ! -5
            pass(9) = 9
            told(50) ! 51
            tire(5, 1) = 0
            told(50) ! -5
            told(51) ! 51
            tire(5, 0) = 1
            pass(1) = 10
            told(55) ! 0
            told(54) ! 10
            told(50) ! 50
            """);
    }

    private static void wording() {
        String sentence = "Terms: WORDING of FACTS for a PIGEON: the set with the fewest WORDS (as bits; of several the least"
            + " as bits) with which it WILL fly now and of which each of the FACTS is meant by one at least (-5: none).";
        Runs.told(sentence, """
            pigeon(0, 0) = 0
            pigeon(1, 1) = 1
            wording(0, 0) ! 1
            wording(1, 0) ! 0
            wording(0, 1) ! 1
            wording(0, 128) ! 128
            wording(0, 255) ! 255
            tire(0, 1) = 0
            wording(0, 0) ! 3
            wording(0, 8) ! 9
            wording(0, 2) ! 3
            phrase(9, 1, 8) = 2
            phrase(5, 0, 6) = 5
            wording(0, 0) ! 32
            wording(0, 8) ! 9
            wording(0, 40) ! 40
            phrase(11, 0, 6) = 5
            wording(0, 8) ! 2048
            phrase(9, 0, 6) = 5
            wording(0, 8) ! 512
            """);
        Runs.told(sentence, "pigeon(0, 0) = 0", cheers(0, 11, 4), "wording(0, 0) ! -5", "wording(0, 255) ! -5",
            "phrase(11, 0, 5) = 4", "wording(0, 0) ! 2048", "wording(0, 255) ! 2295", "phrase(7, 1, 64) = 128",
            "wording(0, 255) ! -5", "wording(0, 127) ! 2167");
        Runs.told(sentence, "pigeon(0, 0) = 0", "loft \"grim 99 n<12;glad 1 n=12\" = 0", "wording(0, 0) ! 4095",
            "wording(0, 255) ! 4095", cheers(0, 11, 3), "wording(0, 0) ! -5", "loft \"glad 13 n=12\" = 1", "wording(0, 1) ! 4095",
            "loft \"glad 12 n=12\" = 2", "wording(0, 1) ! -5", "loft \"glad 1 n=0\" = 3", "wording(0, 0) ! 0",
            "wording(0, 1) ! -5", "loft \"glad 3 n=2\" = 4", "wording(0, 0) ! 3", "wording(0, 16) ! 17", "wording(0, 24) ! 24",
            "wording(0, 25) ! -5");
        Runs.told("Terms: with which it WILL fly now", "pigeon(6, 0) = 0", "row(0, 1, 5) = 0", "row(0, 3, 9) = 0",
            "wording(0, 0) ! 1", "row(0, 1, 4) = 5", "wording(0, 0) ! 7", "wording(0, 128) ! 131", "pigeon(5, 0) = 1",
            "wording(1, 0) ! 3", "letter(0, 7) = 0", "pass(1) = 1", "told(2) ! 7", "wording(1, 0) ! 0");
    }

    private static void birds() {
        String sentence = "Terms: BIRDS for FACTS: the set with the fewest PIGEONS (as bits; of several the least as bits) who"
            + " each have a LETTER and WILL fly with it, as all is now, such that each of the FACTS is meant by a WORD of one of"
            + " these LETTERS, or is KNOWN (-5: none).";
        Runs.told(sentence, "birds(0) ! 0", "birds(1) ! -5", "birds(255) ! -5", """
            pigeon(1, 9) * 5
            birds(1) ! -5
            letter(0, 1) = 0
            letter(1, 2) = 0
            letter(2, 4) = 0
            letter(3, 8) = 0
            letter(4, 16) = 0
            birds(31) ! 31
            birds(63) ! -5
            pigeon(0, 0) = 5
            letter(5, 32) = 0
            birds(63) ! 63
            birds(127) ! -5
            birds(0) ! 0
            birds(32) ! 32
            tire(5, 1) = 0
            birds(32) ! -5
            tire(5, 0) = 1
            letter(4, 3) = 16
            birds(3) ! 16
            birds(1) ! 1
            birds(2) ! 2
            birds(7) ! 20
            letter(3, 7) = 8
            birds(7) ! 8
            letter(2, 32) = 4
            birds(36) ! 12
            birds(32) ! 4
            """);
        Runs.told(sentence, """
            pigeon(1, 9) = 0
            pigeon(1, 9) = 1
            letter(1, 254) = 0
            pass(1) = 1
            birds(254) ! 0
            birds(255) ! -5
            letter(0, 3) = 0
            birds(255) ! 1
            birds(1) ! 1
            letter(0, 256) = 3
            birds(1) ! 1
            """);
        Runs.told("Terms: who each have a LETTER and WILL fly with it, as all is now", "pigeon(5, 0) = 0", "pigeon(0, 0) = 1",
            "letter(0, 2) = 0", "letter(1, 1) = 0", "birds(2) ! -5", "birds(3) ! -5", "birds(1) ! 2", "pass(1) = 1",
            "birds(2) ! 1", "birds(3) ! 1");
    }

    private static void spare() {
        String sentence = "Terms: SPARE of a PIGEON: the WORD of its LETTER without which JOY of its LETTER is greatest, if"
            + " greater than with it (of several the first; -5: none).";
        Runs.told(sentence, """
            pigeon(0, 0) = 0
            of(0, 6) ! -5
            letter(0, 4095) = 0
            of(0, 6) ! -5
            phrase(11, 0, 4) = 5
            of(0, 6) ! -5
            phrase(11, 0, 3) = 4
            of(0, 6) ! 11
            phrase(4, 0, 3) = 5
            of(0, 6) ! 4
            phrase(11, 0, 2) = 3
            of(0, 6) ! 11
            phrase(0, 0, 2) = 5
            of(0, 6) ! 0
            letter(0, 1) = 4095
            of(0, 6) ! 0
            letter(0, 2) = 1
            of(0, 6) ! -5
            letter(0, 0) = 2
            of(0, 6) ! -5
            """);
        Runs.told(sentence, "pigeon(6, 0) = 0", "letter(0, 7) = 0", "of(0, 6) ! -5", "row(0, 2, 1) = 0", "of(0, 6) ! -5",
            "row(0, 2, 2) = 1", "of(0, 6) ! 0", "letter(0, 2048) = 7", "of(0, 6) ! 11", "row(0, 1, 4) = 0", "of(0, 6) ! -5",
            "pigeon(2, 0) = 1", "letter(1, 3) = 0", "phrase(0, 0, 3) = 5", "of(1, 6) ! -5", "phrase(0, 0, 1) = 3",
            "of(1, 6) ! 0");
    }

    private static void seenAndCheers() {
        Runs.told("Terms: SEEN told by hand: a PIGEON, WORDS, whether it WILL fly with them now (5 rows at most).", """
            pigeon(0, 0) = 0
            count(2) ! 0
            see(0, 0, false) = 1
            see(0, 1, true) = 2
            see(0, 2, true) = 3
            see(0, 4, true) = 4
            told(60) ! 992
            see(0, 3072, true) = 5
            count(2) ! 5
            see(0, 1, true) ! -4
            told(71) ! 1008
            see(-1, 0, true) = 0
            told(71) ! 1023
            """);
        String sentence = "Terms: CHEERS of a WORD: those numbers 0 .. 9, as bits, by which, were that its CHEER, all of SEEN"
            + " is so.";
        Runs.told(sentence, """
            pigeon(0, 0) = 0
            told(60) ! 1023
            see(0, 1, true) = 1
            told(60) ! 992
            told(61) ! 1023
            loft "grim 4 p=0" = 0
            told(60) ! 512
            told(61) ! 0
            loft "grim 5 p=0" = 1
            told(60) ! 0
            see(-1, 0, false) = 0
            loft "glad 4 p=0" = 2
            see(0, 2048, false) = 1
            told(71) ! 1
            loft "glad 5 p=0" = 3
            told(71) ! 0
            phrase(11, 0, 0) = 5
            loft "glad 4 p=0" = 4
            told(71) ! 1
            told(60) ! 1023
            told(21) ! 0
            """);
        Runs.told(sentence, "pigeon(0, 0) = 0", "see(0, 1, true) = 1", "see(0, 3, false) = 2", "told(60) ! 0",
            "phrase(1, 0, 2) = 5", "told(60) ! 0b1100000", "told(61) ! 0b0000001111", "see(0, 5, false) = 3", "told(60) ! 0");
    }

    private static void can() {
        String sentence = "Terms: CAN of a PIGEON: how many numbers v (0 .. 9) there are by which, were that its v, likewise;"
            + " the least (-5: none).";
        Runs.told(sentence, """
            pigeon(1, 7) = 0
            pigeon(0, 7) = 1
            can(0, 0) ! 10
            can(0, 1) ! 0
            phrase(0, 0, 0) = 5
            phrase(1, 0, 0) = 5
            phrase(2, 0, 3) = 5
            see(0, 0, true) = 1
            can(0, 0) ! 9
            can(0, 1) ! 1
            see(0, 3, true) = 2
            can(0, 0) ! 1
            can(0, 1) ! 9
            of(0, 1) ! 7
            can(1, 0) ! 0
            can(1, 1) ! -5
            see(0, 7, true) = 3
            can(0, 0) ! 0
            can(0, 1) ! -5
            see(-1, 0, false) = 0
            see(0, 0, false) = 1
            can(0, 0) ! 1
            can(0, 1) ! 0
            see(1, 0, false) = 2
            can(0, 0) ! 1
            can(1, 0) ! 0
            see(1, 8, false) = 3
            can(0, 0) ! 0
            """);
        Runs.told(sentence, "pigeon(0, 5) = 0", "loft \"glad 1 v=3|v>7\" = 0", "see(0, 0, true) = 1", "can(0, 0) ! 3",
            "can(0, 1) ! 3", "loft \"glad 1 v=0|v=9\" = 1", "can(0, 0) ! 2", "can(0, 1) ! 0", "loft \"glad 1 v>9\" = 2",
            "can(0, 0) ! 0", "can(0, 1) ! -5");
    }

    private static int commonOf(int a, int b) {
        return b == 0 ? Math.abs(a) : commonOf(b, a % b);
    }

    private static void oddsAndMean() {
        StringBuilder text = new StringBuilder("pigeon(0, 0) = 0\n" + CHEER_FOUR);
        for (int good = 0; good <= 12; good++) {
            int common = commonOf(good, 12);
            text.append("odds(0, 0) ! " + good / common + "\nodds(0, 1) ! " + 12 / common + "\n");
            if (good < 12) {
                text.append("phrase(" + (11 - good) + ", 0, 5) = 4\n");
            }
        }
        String odds = "Terms: ODDS of a PIGEON: if one of the 12 WORDS, each alike likely, comes to its LETTER (or is in it): how"
            + " likely it WILL fly with it: a fraction in lowest terms.";
        Runs.told(odds, text.toString());
        Runs.told(odds, "pigeon(0, 0) = 0", CHEER_FOUR, "letter(0, 4095) = 0", "odds(0, 0) ! 0", "odds(0, 1) ! 1",
            "phrase(0, 0, 5) = 4", "odds(0, 0) ! 1", "odds(0, 1) ! 1", "letter(0, 2046) = 4095", "odds(0, 0) ! 1",
            "odds(0, 1) ! 12", "letter(0, 2047) = 2046", "odds(0, 0) ! 1", "odds(0, 1) ! 1", "phrase(11, 0, 3) = 4",
            "odds(0, 0) ! 11", "odds(0, 1) ! 12");
        String mean = "Terms: MEAN: JOY of all LETTERS (of those who have one), each of its PIGEON, together, by how many they"
            + " are: a fraction in lowest terms, what is above the line maybe below 0 (NO: there are none).";
        for (int n = 1; n <= 6; n++) {
            StringBuilder rows = new StringBuilder("mean(0) ! NO\nmean(1) ! NO\n" + CHEER_FOUR + "pigeon(0, 0) * " + n + "\n");
            rows.append("mean(0) ! NO\nmean(1) ! NO\nphrase(11, 0, 7) = 4\nletter(0, 2048) = 0\n");
            for (int p = 1; p < n; p++) {
                rows.append("letter(" + p + ", " + p + ") = 0\n");
            }
            for (int tired = 0; tired <= 9; tired++) {
                int common = commonOf(3 - tired, n);
                rows.append("tire(0, " + tired + ") * 1\n");
                rows.append("mean(0) ! " + (3 - tired) / common + "\nmean(1) ! " + n / common + "\n");
            }
            Runs.told(mean, rows.toString());
        }
        Runs.told(mean, "pigeon(0, 0) * 6", "letter(3, 1) = 0", "tire(0, 9) = 0", "mean(0) ! 1", "mean(1) ! 1",
            "letter(0, 1) = 0", "mean(0) ! -7", "mean(1) ! 2", "pigeon(0, 0) ! -4", "letter(3, 0) = 1", "letter(0, 0) = 1",
            "mean(0) ! NO");
    }

    private static void plansAndBooks() {
        String sentence = "Terms: A PLAN told by hand: what goes (0 a DAY, 1 PIGEON n has no LETTER any more, 2 TIRED of PIGEON n"
            + " is 0, 3 CHEER of WORD n is 9; 10 rows at most): ENDS: what is KNOWN (bits); FLOWN of all, together.";
        Runs.told(sentence, """
            ends(0) ! 0
            ends(1) ! 0
            pigeon(0, 0) * 6
            ends(1) ! 0
            letter(5, 2048) = 0
            letter(0, 1) = 0
            tire(5, 9) = 0
            phrase(11, 1, 128) = 8
            ends(0) ! 0
            plan(0, HIGH) = 1
            ends(0) ! 1
            ends(1) ! 1
            plan(2, 5) = 2
            ends(0) ! 1
            plan(0, LOW) = 3
            ends(0) ! 129
            ends(1) ! 2
            plan(-1, 0) = 0
            plan(3, 11) = 1
            plan(0, 0) * 5
            ends(0) ! 1
            plan(0, 0) * 1
            ends(0) ! 129
            plan(0, 0) * 3
            count(3) ! 10
            plan(0, 0) ! -4
            ends(1) ! 2
            told(21) ! 5
            plan(-1, 0) = 0
            plan(1, 0) = 1
            plan(1, 5) = 2
            plan(1, 3) = 3
            plan(0, 0) = 4
            ends(0) ! 0
            ends(1) ! 0
            of(0, 2) ! 1
            """);
        Runs.told("Terms: FLOWN of all, together", "pigeon(1, 9) * 6", "letter(0, 1) = 0", "letter(5, 1) = 0", "pass(1) = 1",
            "letter(5, 1) = 0", "pass(1) = 2", "ends(1) ! 3", "letter(2, 1) = 0", "plan(0, 0) = 1", "ends(1) ! 4");
        StringBuilder book = new StringBuilder("looked() ! -5\n");
        for (int r = 0; r < 8; r++) {
            book.append("book(" + (11 - r) + ", 5) = " + (r + 1) + "\nlooked() ! -5\n");
        }
        for (int r = 7; r >= 0; r--) {
            book.append("phrase(" + (11 - r) + ", 0, " + (r % 2 == 0 ? 0 : 9) + ") = 5\nlooked() ! " + r + "\n");
        }
        Runs.told("Terms: A BOOK told by hand: WORDS, CHEER (0 .. 9; 8 at most): LOOKED at: the number (from 0) of the first of"
            + " these rows by which it is otherwise now (-5: none).", book.toString(), "book(0, 5) ! -4", "book(0, -1) ! -2",
            "book(0, 10) ! -2", "book(-1, 0) = 0", "looked() ! -5", "book(0, 0) = 1", "looked() ! 0", "book(1, 9) = 2",
            "phrase(0, 0, 0) = 5", "looked() ! 1", "phrase(1, 0, 9) = 5", "looked() ! -5");
    }

    /** PIGEON 0 and PIGEON 1 of this KIND with v: the first or the second acts. */
    private static String acted(int kind, int v, int pigeon, int act, String x, long answer) {
        return "pigeon(" + kind + ", " + v + ") * 2\nact(" + pigeon + ", " + act + ", " + x + ") = " + answer + "\n";
    }

    private static void actsWrap() {
        String sentence = "Terms: ACTS of a PIGEON with x (wrapping): 0 coos, 1 flies, 2 tells; i its number.";
        int high = Integer.MAX_VALUE;
        int low = Integer.MIN_VALUE;
        Runs.told(sentence, acted(0, 0, 1, 0, "HIGH", low));
        Runs.told(sentence, acted(0, 9, 0, 1, "LOW", high - 8));
        Runs.told(sentence, acted(0, 0, 0, 2, "HIGH", -2));
        Runs.told(sentence, acted(0, 0, 0, 2, "LOW", 0));
        Runs.told(sentence, acted(0, 0, 0, 2, "1073741824", low));
        Runs.told(sentence, acted(1, 1, 0, 1, "LOW", 2147483641));
        Runs.told(sentence, acted(2, 0, 0, 0, "HIGH", 2147483645));
        Runs.told(sentence, acted(2, 0, 1, 0, "1431655766", 3));
        Runs.told(sentence, acted(2, 0, 0, 0, "LOW", low));
        Runs.told(sentence, acted(3, 0, 1, 2, "1073741822", low));
        Runs.told(sentence, acted(4, 0, 0, 0, "LOW", low));
        Runs.told(sentence, acted(4, 0, 0, 1, "HIGH", -2147483642));
        Runs.told(sentence, acted(5, 0, 1, 2, "LOW", -4));
        Runs.told(sentence, acted(6, 0, 0, 1, "HIGH", low + 1));
        Runs.told(sentence, acted(6, 9, 0, 0, "LOW", low + 9));
    }

    /** With x 10, the third PIGEON (i 2), v 3. */
    private static void bodies() {
        String[] told = {"PIGEON: 10 coos: x + i. 11 flies: coos(x) - v. 12 tells: flies(x) * 2.",
            "FANCY: 20 flies: super.flies(x) ^ 6.", "DULL: 30 coos: super.coos(x * 3).",
            "KEEN: 40 tells: super.tells(x) + flies(1).", "FAST: 50 coos: -super.coos(x). 51 flies: super.flies(x + 1).",
            "OLD: 60 tells: super.tells(x - i).", "TOLD: 70 flies: super.flies(x) + super.coos(2). 71 coos: super.coos(x) ^ v."};
        int[][] answers = {{12, 9, 18}, {12, 15, 30}, {32, 29, 58}, {12, 9, 18}, {-12, -10, -20}, {32, 29, 46}, {15, 16, 33}};
        for (int kind = 0; kind < 7; kind++) {
            StringBuilder text = new StringBuilder("pigeon(" + kind + ", 3) * 3\n");
            for (int act = 0; act < 3; act++) {
                text.append("act(2, " + act + ", 10) = " + answers[kind][act] + "\n");
            }
            Runs.told("Terms: " + told[kind], text.toString());
        }
    }

    private static String traced(int... bodies) {
        StringBuilder text = new StringBuilder("count(6) ! " + bodies.length + "\n");
        for (int i = 0; i < bodies.length; i++) {
            text.append("trace(" + i + ") ! " + bodies[i] + "\n");
        }
        return text + "trace(" + bodies.length + ") ! -1\n";
    }

    private static void traces() {
        String sentence = "Terms: THE TRACE: the numbers of the bodies that ran in the latest act(), as they began; the first 20"
            + " are kept.";
        Runs.told(sentence, "trace(0) ! -1", "count(6) ! 0", "pigeon(6, 3) = 0", "pigeon(0, 0) = 1", "act(0, 2, 10) = 17",
            traced(40, 12, 70, 11, 71, 10, 10, 70, 11, 71, 10, 10), "trace(19) ! -1", "trace(20) ! -1", "trace(-1) ! -1",
            "act(1, 0, 5) = 6", traced(10), "act(2, 0, 5) = 0", traced());
        // 20 bodies are beyond any act: the longest of all has 12.
        int longest = 0;
        for (int kind = 0; kind < 7; kind++) {
            for (int act = 0; act < 3; act++) {
                GoodNewsPigeons x = new GoodNewsPigeons();
                x.pigeon(kind, 5);
                x.act(0, act, 7);
                longest = Math.max(longest, x.count(6));
                Runs.due(sentence, "the last kept", x.trace(x.count(6) - 1), 10);
                Runs.due(sentence, "the one behind the last", x.trace(x.count(6)), -1);
            }
        }
        Runs.due(sentence, "the longest TRACE", longest, 12);
        String bodies = "Terms: coos(..) and so on: the body of its KIND, or, if that has none, of the next KIND above that has"
            + " one; super.coos(..): so from the KIND above the body's on; all that stands in a body is done from the left on.";
        Runs.told(bodies, "pigeon(3, 2) * 1", "act(0, 2, 7) = 9", traced(40, 12, 11, 10, 11, 10));
        Runs.told(bodies, "pigeon(6, 2) * 1", "act(0, 1, 7) = 5", traced(70, 11, 71, 10, 10));
        Runs.told(bodies, "pigeon(4, 2) * 2", "act(1, 1, 7) = -13", traced(51, 20, 11, 50, 10));
        Runs.told(bodies, "pigeon(5, 2) * 2", "act(1, 2, 7) = 34", traced(60, 12, 11, 30, 10));
    }

    private static final String SOME = """
        pigeon(6, 3) = 0
        pigeon(1, 4) = 1
        row(0, 1, 8) = 0
        tire(1, 2) = 0
        letter(1, 3) = 0
        phrase(2, 0, 8) = 5
        phrase(3, 1, 77) = 8
        loft "glad 1 p=1;rest 2" = 0
        pass(1) = 1
        letter(0, 12) = 0
        see(0, 1, true) = 1
        plan(1, 0) = 1
        book(2, 8) = 1
        tape(2, 3, 4) = 1
        feed "rest"
        act(0, 0, 5) = 6
        """;

    /** Each part of THE IMAGE by itself comes back; each part that is not in it stays. */
    private static void image() {
        String sentence = "Terms: THE IMAGE: WORDS with all that is theirs, what is KNOWN, PIGEONS with all that is theirs, DAY,"
            + " SEEN, the PLAN, the BOOK, which LOFT holds.";
        String[] others = {"phrase(0, 0, 1) * 1", "phrase(11, 0, 9) * 1", "phrase(3, 1, 0) * 1", "phrase(11, 1, 255) * 1",
            "pigeon(2, 2) * 1\npigeon(6, 5) * 1\nrow(3, 0, 1) * 1\nletter(3, 9) * 1\ntire(2, 9) * 1", "row(0, 1, 0) * 1",
            "row(0, 3, 9) * 1", "letter(0, 0) * 1", "letter(1, 4095) * 1", "tire(0, 9) * 1", "tire(1, 0) * 1", "pass(1) * 1",
            "pass(60) * 3", "letter(0, 3072) * 1\ntire(0, 0) * 1\npass(3) * 1", "see(1, 2, false) * 4", "see(-1, 0, true) * 1",
            "see(-1, 0, true) * 1\nsee(1, 4095, false) * 1", "plan(0, 0) * 9", "plan(-1, 0) * 1",
            "plan(-1, 0) * 1\nplan(0, 0) * 1", "book(1, 1) * 7", "book(-1, 0) * 1", "book(-1, 0) * 1\nbook(2, 2) * 1"};
        for (String other : others) {
            Runs.same(sentence, SOME + "image() = 2\n" + other + "\nundo() = 2\n", SOME + "image() = 2\n");
        }
        StringBuilder rows = new StringBuilder("pigeon(6, 0) * 6\n");
        StringBuilder otherRows = new StringBuilder("image() = 6\n");
        for (int p = 0; p < 6; p++) {
            for (int part = 0; part < 4; part++) {
                rows.append("row(" + p + ", " + part + ", " + (p + part) + ") = 0\n");
                otherRows.append("row(" + p + ", " + part + ", " + (9 - p) + ") = " + (p + part) + "\n");
            }
        }
        Runs.same(sentence, rows + "" + otherRows + "undo() = 6\n", rows + "image() = 6\n");
        Runs.same(sentence, SOME + "image() = 2\nphrase(5, 0, 2) = 5\nundo() = 2\npass(4) = 5\nundo() = 2\n",
            SOME + "image() = 2\n");
        Runs.told(sentence, SOME, "image() = 2", "told(1) ! 2", "feed \" 7\"", "loft() = 1", "told(1) ! 7", "feed \"rest 3\"", "undo() = 2", "told(1) ! 2", "count(1) ! 2",
            "count(5) ! 6", "loft() = 2", "told(1) ! 3", "undo() = 2", "told(1) ! 2", "count(1) ! 3");
        Runs.told(sentence, "image() = 0", "pigeon(0, 0) = 0", "loft \"rest 4;glad 9 p=0\" = 0", "undo() = 0", "told(1) ! 1",
            "count(1) ! 1", "pigeon(0, 0) = 0", "joy(0, 0) ! 0");
        String[] kept = {"tape(0, 2, 9) = 1\nitem(0, 3, 8) = 1", "item(2, 3, 9) = 1", "tape(2, -1, 0) = 1", "feed(59) = 5",
            "act(1, 1, 6) = 5", "act(1, 9, 6) = 0", "feed \" 7;rest\"\nloft() = -21"};
        for (String other : kept) {
            Runs.same(sentence, SOME + "image() = 2\n" + other + "\nundo() = 2\n", SOME + other + "\nimage() = 2\n");
        }
    }

    private static void tapes() {
        Runs.told("Terms: TAPES 0 .. 5 hold nothing (at first), or a row of 0 bytes, 1 shorts, 2 ints, 3 longs, 4 booleans (items"
            + " 0, 1).", """
            tape(-1, 0, 1) ! -1
            tape(6, 0, 1) ! -1
            item(0, 0, 1) ! -11
            item(5, 0, 1) ! -11
            read(0, 0) ! NO
            read(5, 0) ! NO
            tape(0, 0, 1) = 1
            tape(5, 4, 1) = 1
            item(5, 0, 2) = 1
            read(5, 0) ! 1
            item(5, 0, 4294967296) = 1
            read(5, 0) ! 1
            item(5, 0, 0) = 1
            read(5, 0) ! 0
            tape(1, 5, 1) ! -2
            tape(1, -2, 1) ! -2
            item(1, 0, 1) ! -11
            """);
        String judged = "Terms: CHEER told by a row of ints, from a place on, WORD by WORD, is JUDGED: the first that is"
            + " otherwise (counted from 0 from that place on); -5: none; 100 and how many were looked at, if the row ends ahead of"
            + " that (or the place is below 0, or the TAPE holds nothing).";
        StringBuilder text = new StringBuilder("judge(0, 0) ! 100\njudge(0, -1) ! 100\ntape(0, 2, 0) = 1\njudge(0, 0) ! 100\n");
        text.append("judge(0, -1) ! 100\njudge(0, 1) ! 100\ntape(0, 2, 14) = 1\n");
        for (int i = 0; i < 14; i++) {
            text.append("item(0, " + i + ", 5) = 1\n");
        }
        for (int i = 0; i <= 16; i++) {
            text.append("judge(0, " + i + ") ! " + (i <= 2 ? -5 : 100 + Math.max(0, 14 - i)) + "\n");
        }
        text.append("judge(0, HIGH) ! 100\njudge(0, LOW) ! 100\njudge(0, -1) ! 100\n");
        Runs.told(judged, text.toString(), "phrase(11, 0, 4) = 5", "judge(0, 0) ! 11", "judge(0, 2) ! 11", "judge(0, 3) ! 111",
            "phrase(11, 0, 5) = 4", "item(0, 2, 4) = 1", "judge(0, 0) ! 2", "judge(0, 1) ! 1", "judge(0, 2) ! 0",
            "judge(0, 3) ! 111", "phrase(0, 0, 4) = 5", "judge(0, 0) ! 0", "judge(0, 2) ! -5", "judge(0, 13) ! 0",
            "judge(0, 14) ! 100");
        Runs.told("Terms: The host's refusals: NOTHING (-11): nothing is there; CAST (-12): another sort or KIND; PLACE (-13): no"
            + " such place; SIZE (-14): a size below 0.", "taken(0, 0) ! -11", "item(0, 0, 1) ! -11", "pigeon(0, 0) = 0",
            "taken(0, 1) ! -12", "tape(0, 0, 1) = 1", "tape(1, 1, 1) = 1", "shift(0, 0, 1, 0, 1) ! -12", "judge(0, 0) ! -12",
            "item(0, 1, 1) ! -13", "shift(0, 0, 0, 1, 1) ! -13", "tape(0, 0, -1) ! -14");
    }

    public static void main(String[] args) {
        daysInOrder();
        tiredAndRest();
        mostFlown();
        beyondTheLastDay();
        onAndComes();
        wording();
        birds();
        spare();
        seenAndCheers();
        can();
        oddsAndMean();
        plansAndBooks();
        actsWrap();
        bodies();
        traces();
        image();
        tapes();
        Runs.ends();
    }
}
