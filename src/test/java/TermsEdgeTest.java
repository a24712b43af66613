/** The boundary cases that the Terms name, sentence by sentence. How a run is written stands in help/Runs.java. */
public final class TermsEdgeTest {
    private static final String LETTERS = "pkvtnd";

    private static void numbers() {
        Runs.told("Terms: FACTS are 0 .. 7, WORDS 0 .. 11, sets of them as bits.", """
            pigeon(0, 0) = 0
            told(9) ! -1
            told(10) ! 5
            told(21) ! 5
            told(22) ! -1
            told(49) ! -1
            told(50) ! -5
            told(57) ! -5
            told(58) ! -1
            phrase(-1, 0, 0) ! -1
            phrase(12, 0, 0) ! -1
            letter(0, -1) ! -2
            letter(0, 4096) ! -2
            letter(0, 4095) = 0
            letter(0, 2048) = 4095
            birds(-1) ! -2
            birds(256) ! -2
            birds(255) ! -5
            birds(8) ! 1
            pass(1) = 1
            told(2) ! 8
            """);
        StringBuilder first = new StringBuilder();
        for (int w = 0; w < 12; w++) {
            first.append("told(" + (10 + w) + ") ! 5\n");
            first.append("told(" + (30 + w) + ") ! " + (1 << w % 8) + "\n");
        }
        Runs.told("Terms: Each WORD has a CHEER (0 .. 9; 5 at first) and MEANS FACTS (its own number modulo 8 alone at"
            + " first).", first.toString(), """
            phrase(0, 0, -1) ! -2
            phrase(0, 0, 10) ! -2
            phrase(0, 0, 0) = 5
            told(10) ! 0
            phrase(11, 0, 9) = 5
            told(21) ! 9
            phrase(11, 1, 0) = 8
            told(41) ! 0
            """);
        Runs.told("Terms: KNOWN are FACTS (none at first).", """
            told(2) ! 0
            birds(0) ! 0
            birds(1) ! -5
            pigeon(0, 0) = 0
            letter(0, 4095) = 0
            pass(1) = 1
            told(2) ! 255
            birds(255) ! 0
            """);
        Runs.told("Terms: DAY: 0 at first.", "told(0) ! 0", "pass(1) = 1", "told(0) ! 1");
    }

    private static void pigeons() {
        Runs.told("Terms: PIGEONS 0 .. 5, as they come, are of KINDS", """
            of(0, 0) ! -1
            pigeon(6, 0) = 0
            of(0, 0) ! 6
            of(1, 0) ! -1
            pigeon(5, 0) = 1
            pigeon(4, 0) = 2
            pigeon(3, 0) = 3
            pigeon(2, 0) = 4
            pigeon(1, 0) = 5
            of(5, 0) ! 1
            of(6, 0) ! -1
            of(-1, 0) ! -1
            pigeon(0, 0) ! -4
            """);
        String[] under = {"0", "01", "02", "03", "014", "025", "036"};
        for (int kind = 0; kind < 7; kind++) {
            StringBuilder text = new StringBuilder("pigeon(" + kind + ", 0) = 0\n");
            for (int k = 0; k < 7; k++) {
                text.append("taken(0, " + k + ") ! " + (under[kind].indexOf('0' + k) >= 0 ? kind : -12) + "\n");
            }
            Runs.told("Terms: 0 PIGEON; 1 FANCY, 2 DULL, 3 KEEN under PIGEON; 4 FAST under FANCY; 5 OLD under DULL;"
                + " 6 TOLD under KEEN", text.toString());
        }
        Runs.told("Terms: with a number v (0 .. 9), a LETTER (WORDS; none at first: it has no LETTER then), TIRED (0 .. 9;"
            + " 0 at first), FLOWN (0 .. 9999; 0 at first).", """
            pigeon(1, -1) ! -2
            pigeon(1, 10) ! -2
            pigeon(1, 0) = 0
            pigeon(1, 9) = 1
            of(0, 1) ! 0
            of(1, 1) ! 9
            of(1, 2) ! 0
            of(1, 3) ! 0
            of(1, 4) ! 0
            joy(1, 0) ! 9
            of(1, 5) ! 0
            of(1, 6) ! -5
            told(3) ! 0
            mean(0) ! NO
            tire(1, 10) ! -2
            tire(1, -1) ! -2
            tire(1, 9) = 0
            of(1, 3) ! 9
            tire(1, 0) = 9
            of(1, 3) ! 0
            pass(1) = 1
            of(1, 4) ! 0
            """);
    }

    /** A LOFT of all 100 bytes: the last of them tells whether v is below 1 or below 10. */
    private static void wholeText() {
        StringBuilder text = new StringBuilder("glad 7 p=01|p=1");
        while (text.length() < 95) {
            text.append("|p=1");
        }
        text.append("|v<1");
        if (text.length() != 99) {
            throw new IllegalStateException("it has " + text.length() + " bytes");
        }
        Runs.told("Terms: A LOFT is read from THE TEXT (bytes, 100 at most)", "pigeon(0, 5) = 0",
            "loft \"" + text + "\" = 0", "joy(0, 0) ! 0",
            "feed \"" + text + "\"", "count(5) ! 99", "feed(48) = 100", "feed(48) ! -4", "loft() = 1", "joy(0, 0) ! 7",
            "count(5) ! 0", "feed(48) = 1");
        Runs.told("Terms: A LOFT is read from THE TEXT (bytes, 100 at most)", "feed(32) * 100", "count(5) ! 100",
            "feed(32) ! -4", "loft() = -10");
    }

    private static String clauses(int n, String clause) {
        StringBuilder text = new StringBuilder(clause);
        for (int i = 1; i < n; i++) {
            text.append(';').append(clause);
        }
        return text.toString();
    }

    private static String faultOf(String text, int place) {
        return "loft \"" + text + "\" = " + (-10 - place) + "\n";
    }

    private static void clauses() {
        String sentence = "Terms: CLAUSES, 1 to 10, with ; between";
        Runs.told(sentence, "pigeon(0, 0) = 0", faultOf("", 0), faultOf(";", 0),
            "loft \"rest 2\" = 0", "told(1) ! 2",
            "loft \"" + clauses(9, "rest 1") + ";rest 8\" = 1", "told(1) ! 8",
            "loft \"" + clauses(10, "rest 1") + "\" = 2", "told(1) ! 1");
        Runs.told(sentence, "pigeon(0, 0) = 0",
            "loft \"" + clauses(8, "glad 99 p=0") + "\" = 0", "joy(0, 0) ! 792",
            "loft \"" + clauses(7, "grim 1 p=0") + ";rest 1;rest 1;rest 4\" = 1", "joy(0, 0) ! -7", "told(1) ! 4");
        // Nine glad or grim are the most for which 100 bytes have room.
        Runs.told(sentence, "pigeon(0, 0) = 0", "loft \"" + clauses(9, "glad 9 p=0") + "\" = 0", "joy(0, 0) ! 81",
            "loft \"" + clauses(9, "grim 9 p=0") + ";\" = -109", "joy(0, 0) ! 81");
        Runs.told(sentence, "pigeon(0, 0) = 0", "loft \"" + clauses(6, "glad 9 p=0") + ";" + clauses(4, "rest 4") + "\" = 0",
            "joy(0, 0) ! 54", "told(1) ! 4");
        Runs.told(sentence, faultOf(clauses(10, "rest 1") + ";", 69), faultOf(clauses(11, "rest 1"), 69),
            faultOf(clauses(13, "rest 1"), 69), faultOf("rest 1;", 7), faultOf("rest 1;;rest 1", 7),
            faultOf("rest 1,rest 1", 6), faultOf("rest 1rest 1", 6), faultOf("rest 1; rest 1", 7),
            faultOf("rest 1 ;rest 1", 6), faultOf(";rest 1", 0));
    }

    private static void blanksAndNumbers() {
        String sentence = "Terms: glad n E; grim n E; rest n (one blank ahead of each part behind the word; n 1 or 2"
            + " digits).";
        Runs.told(sentence, "pigeon(0, 0) = 0",
            "loft \"glad 0 p=0\" = 0", "joy(0, 0) ! 0", "loft \"glad 99 p=0\" = 1", "joy(0, 0) ! 99",
            "loft \"grim 99 p=0\" = 2", "joy(0, 0) ! -99", "loft \"grim 09 p=0\" = 3", "joy(0, 0) ! -9",
            "loft \"rest 00\" = 4", "told(1) ! 0", "loft \"rest 99\" = 5", "told(1) ! 99");
        Runs.told(sentence, "loft \"rest 0\" = 0", "told(1) ! 0", "loft \"rest 9\" = 1", "told(1) ! 9",
            "loft \"rest 08\" = 2", "told(1) ! 8", "loft \"rest 10\" = 3", "told(1) ! 10");
        for (String word : new String[] {"glad", "grim"}) {
            Runs.told(sentence, faultOf(word, 4), faultOf(word + "1 p=0", 4), faultOf(word + " ", 5),
                faultOf(word + "  1 p=0", 5), faultOf(word + " p=0", 5), faultOf(word + " 1", 6), faultOf(word + " 1p=0", 6),
                faultOf(word + " 12p=0", 7), faultOf(word + " 123 p=0", 7), faultOf(word + " 1 ", 7),
                faultOf(word + " 1  p=0", 7), faultOf(word + " -1 p=0", 5), faultOf(word + " 1;rest 1", 6));
        }
        Runs.told(sentence, faultOf("rest", 4), faultOf("rest1", 4), faultOf("rest ", 5), faultOf("rest  1", 5),
            faultOf("rest 123", 7), faultOf("rest 1 ", 6), faultOf("rest 1 p=0", 6), faultOf("rest x", 5),
            faultOf("rest;", 4), faultOf("Rest 1", 0), faultOf(" rest 1", 0));
    }

    private static String so(String test, boolean isSo) {
        return "loft \"glad 1 " + test + "\" = ?\njoy(0, 0) ! " + (isSo ? 1 : 0) + "\n";
    }

    /** Tests on PIGEON 0 (a PIGEON, v 5), six to an object, since it takes six LOFTS. */
    private static void sixTests(String sentence, String... texts) {
        StringBuilder text = new StringBuilder("pigeon(0, 5) = 0\n");
        for (int i = 0; i < texts.length; i++) {
            text.append(texts[i].replace("?", "" + i));
        }
        Runs.told(sentence, text.toString());
    }

    private static void expressions() {
        String either = "Terms: E: T or T|E. T: F or F&T.";
        sixTests(either, so("v=5", true), so("v=1", false), so("v=1|v=5", true), so("v=5|v=1", true),
            so("v=1|v=2", false), so("v=1&v=5", false));
        sixTests(either, so("v=5&v=1", false), so("v=5&p=0", true), so("v=5|v=1&v=2", true), so("v=1&v=2|v=5", true),
            so("v=1&v=5|v=2", false), so("v=1|v=2|v=3|v=4|v=5", true));
        Runs.told(either, faultOf("glad 1 |v=1", 7), faultOf("glad 1 &v=1", 7), faultOf("glad 1 v=1|", 11),
            faultOf("glad 1 v=1&", 11), faultOf("glad 1 v=1||v=1", 11), faultOf("glad 1 v=1&&v=1", 11),
            faultOf("glad 1 v=1|&v=1", 11), faultOf("glad 1 v=1v=1", 10));
        String one = "Terms: F: !F, (E), or a TEST";
        sixTests(one, so("!v=5", false), so("!v=1", true), so("!!v=5", true), so("(v=5|v=5)&v=1", false),
            so("!v=5&v=1", false), so("!(v=5&v=1)", true));
        sixTests(one, so("!v=5|v=5", true), so("!(v=5|v=5)", false), so("(v=5)", true), so("((v=1))", false),
            so("v=1&(v=5|v=5)", false), so("v=5&(v=1|v=5)&v=5", true));
        Runs.told(one, faultOf("glad 1 ()", 8), faultOf("glad 1 !", 8), faultOf("glad 1 !)", 8), faultOf("glad 1 (v=1", 11),
            faultOf("glad 1 (v=1;", 11), faultOf("glad 1 v=1)", 10), faultOf("glad 1 (v=1))", 12),
            faultOf("glad 1 (v=1)v=1", 12), faultOf("glad 1 v=1!", 10), faultOf("glad 1 (v=1)!v=1", 12));
    }

    /** Each letter with each relation and the numbers 0, one less, the same, one more, 99, told with two digits, too. */
    private static void tests() {
        String sentence = "Terms: a TEST: a letter, < or = or >, a number (1 or 2 digits): of a PIGEON and a set of WORDS p"
            + " the number of the one, k its KIND, v its v, t TIRED, n how many WORDS there are, d DAY modulo 10.";
        int[] stands = {1, 4, 7, 3, 5, 6};
        for (int letter = 0; letter < 6; letter++) {
            int is = stands[letter];
            for (int relation = 0; relation < 3; relation++) {
                int[] ns = {0, is - 1, is, is + 1, is + 10, 99};
                StringBuilder text = new StringBuilder("pigeon(0, 0) = 0\npigeon(4, 7) = 1\ntire(1, 9) = 0\npass(6) = 6\n");
                for (int i = 0; i < 6; i++) {
                    boolean isSo = relation == 0 ? is < ns[i] : relation == 1 ? is == ns[i] : is > ns[i];
                    String number = i % 2 == 1 && ns[i] < 10 ? "0" + ns[i] : "" + ns[i];
                    String test = LETTERS.charAt(letter) + "" + "<=>".charAt(relation) + number;
                    text.append("loft \"glad 50 " + test + "\" = " + i + "\n");
                    // FAST: SUM (5 of the WORDS less 3 TIRED), v 7, less twice TIRED.
                    text.append("joy(1, 31) ! " + (5 - 3 + 7 - 6 + (isSo ? 50 : 0)) + "\n");
                }
                Runs.told(sentence, text.toString());
            }
        }
        sixTests(sentence, so("p<0", false), so("!p<0", true), so("v=5&!p<0", true), so("v=5&(p<0|p=0)", true),
            so("p=0&p<0", false), so("v=5|p<0", true));
        Runs.told(sentence, faultOf("glad 1 v", 8), faultOf("glad 1 v=", 9), faultOf("glad 1 =5", 7), faultOf("glad 1 5", 7),
            faultOf("glad 1 v5", 8), faultOf("glad 1 v==5", 9), faultOf("glad 1 v<=5", 9), faultOf("glad 1 v=-5", 9),
            faultOf("glad 1 v=123", 11), faultOf("glad 1 v =5", 8), faultOf("glad 1 v= 5", 9), faultOf("glad 1 x=5", 7),
            faultOf("glad 1 V=5", 7));
        Runs.told("Terms: n how many WORDS there are", "pigeon(0, 0) = 0", "loft \"glad 50 n=0\" = 0", "joy(0, 0) ! 50",
            "joy(0, 1) ! 1", "loft \"glad 50 n=12\" = 1", "joy(0, 4095) ! 62", "joy(0, 2047) ! 11",
            "loft \"glad 50 n>11\" = 2", "joy(0, 4095) ! 62", "joy(0, 4094) ! 11");
        Runs.told("Terms: d DAY modulo 10", "pigeon(0, 0) = 0", "loft \"glad 1 d=0\" = 0", "joy(0, 0) ! 1", "pass(9) = 9",
            "joy(0, 0) ! 0", "pass(1) = 10", "joy(0, 0) ! 1", "pass(1) = 11", "joy(0, 0) ! 0", "loft \"glad 1 d>9\" = 1",
            "joy(0, 0) ! 0", "pass(9) = 20", "loft \"glad 2 d<1\" = 2", "joy(0, 0) ! 2");
    }

    /** All rows of four or five ( and !, told by the bits of a number. */
    private static void depth() {
        String sentence = "Terms: A ( or ! within 4 others is none.";
        for (int mask = 0; mask < 32; mask++) {
            StringBuilder opens = new StringBuilder();
            StringBuilder closes = new StringBuilder();
            int nots = 0;
            for (int i = 0; i < 5; i++) {
                boolean isNot = (mask >> i & 1) != 0;
                if (i == 4) {
                    Runs.told(sentence, faultOf("glad 1 " + opens + (isNot ? "!" : "(") + "v=5", 11));
                } else {
                    opens.append(isNot ? '!' : '(');
                    closes.append(isNot ? "" : ")");
                    nots += isNot ? 1 : 0;
                }
            }
            sixTests(sentence, so(opens + "v=5" + closes, nots % 2 == 0), so(opens + "v=1" + closes, nots % 2 == 1));
        }
        sixTests(sentence, so("((((v=5))))&((((v=5))))|!!!!v=5", true), so("!v=5&!v=5&!v=5&!v=5&!v=5&!v=1", false),
            so("!v=1&!v=2&!v=3&!v=4&!v=6&!v=7", true), so("(v=5)&(v=5)&(v=5)&(v=5)&(v=5)&(v=5)", true),
            so("(((!v=5)|!v=1)&!v=1)|!v=5", true), so("!(!(v=5)&!(v=5)&((v=5|v=1)))", true));
        Runs.told(sentence, faultOf("glad 1 ((((v=1))))&(((((v=1", 23), faultOf("glad 1 !!!(v=1&!v=1)", 15),
            faultOf("glad 1 (((v=1)&(v=1)&(((v=1", 23), faultOf("glad 1 v=1;grim 1 !!!!!", 22));
    }

    private static void faults() {
        String sentence = "Terms: The FAULT: the place of the first byte with which none begins so (the end of THE TEXT, if"
            + " it ends too early).";
        String whole = "glad 12 !(v=1|n<9&k>07);rest 3;grim 4 ((t=2))";
        // By this many bytes the text is a LOFT, and ends neither too early nor too late.
        String ends = " 23 30 45 ";
        for (int length = 0; length <= whole.length(); length++) {
            boolean isLoft = ends.contains(" " + length + " ");
            String start = whole.substring(0, length);
            Runs.told(sentence, "loft \"" + start + "\" = " + (isLoft ? 0 : -10 - length), faultOf(start + "\u0001", length),
                faultOf(start + "#rest 1", length));
        }
        String[][] next = {{"", "gr"}, {"g", "lr"}, {"gl", "a"}, {"gr", "i"}, {"gri", "m"}, {"r", "e"}, {"re", "s"},
            {"res", "t"}, {"rest", " "}, {"glad", " "}, {"glad ", "0123456789"}, {"glad 1", "0123456789 "},
            {"glad 12", " "}, {"glad 1 ", "!(pkvtnd"}, {"glad 1 p", "<=>"}, {"glad 1 p<", "0123456789"},
            {"glad 1 p<1", "0123456789&|;"}, {"glad 1 p<12", "&|;"}, {"glad 1 (p<12", "&|)"}, {"glad 1 (p<12)", "&|;"},
            {"glad 1 !!!!", "pkvtnd"}, {"glad 1 ((((", "pkvtnd"}, {"glad 1 (((", "!(pkvtnd"}, {"glad 1 !!!!p=1", "0123456789&|;"},
            {"rest 1", "0123456789;"}, {"rest 12", ";"}, {"rest 1;", "gr"}, {clauses(10, "rest 1"), "0123456789"},
            {clauses(10, "rest 12"), ""}, {clauses(9, "rest 12"), ";"}};
        for (String[] row : next) {
            signsNext(sentence, row[0], row[1]);
        }
    }

    /** Each sign behind this start: it is the FAULT, but for those told. */
    private static void signsNext(String sentence, String start, String good) {
        for (int sign = 0; sign < 128; sign++) {
            GoodNewsPigeons x = new GoodNewsPigeons();
            for (int i = 0; i < start.length(); i++) {
                x.feed(start.charAt(i));
            }
            x.feed(sign);
            x.feed(1);
            int place = start.length() + (good.indexOf(sign) >= 0 ? 1 : 0);
            Runs.due(sentence, "loft() of '" + start + "' with sign " + sign, x.loft(), -10 - place);
        }
    }

    private static void newest() {
        Runs.told("Terms: The newest LOFT holds (6 at most); without one there are no CLAUSES.", """
            pigeon(0, 0) = 0
            joy(0, 0) ! 0
            loft "glad 1 p=0;glad 9 p=0;rest 7" = 0
            joy(0, 0) ! 10
            loft "glad 2 p=0" = 1
            joy(0, 0) ! 2
            loft "glad 3 p=0" = 2
            loft "glad 4 p=0" = 3
            loft "glad 5 p=0" = 4
            joy(0, 0) ! 5
            loft "glad 6 p=0" = 5
            joy(0, 0) ! 6
            feed "glad 7 p=0"
            loft() ! -4
            joy(0, 0) ! 6
            """);
        Runs.told("Terms: REST (1 without): the last one's n.", """
            pigeon(0, 0) = 0
            told(1) ! 1
            loft "rest 5;rest 0" = 0
            told(1) ! 0
            loft "glad 1 p=0" = 1
            told(1) ! 1
            loft "rest 0;glad 1 p=0;rest 99;grim 1 p=0" = 2
            told(1) ! 99
            loft "rest 3" = 3
            told(1) ! 3
            tire(0, 9) = 0
            pass(1) = 1
            of(0, 3) ! 6
            """);
    }

    private static String cheers(int from, int cheer) {
        StringBuilder text = new StringBuilder();
        for (int w = from; w < 12; w++) {
            text.append("phrase(" + w + ", 0, " + cheer + ") * 1\n");
        }
        return text.toString();
    }

    private static void sums() {
        String sentence = "Terms: SUM of a PIGEON and a set of WORDS: CHEER less 4 of each of these, and the n of all glad"
            + " whose E holds, less those of all grim, less TIRED, together (may be below 0).";
        Runs.told(sentence, "pigeon(0, 0) = 0", "joy(0, 0) ! 0", cheers(0, 0), "joy(0, 1) ! -4", "joy(0, 4095) ! -48",
            "tire(0, 9) = 0", "joy(0, 0) ! -9", "joy(0, 4095) ! -57", "loft \"" + clauses(8, "grim 99 p=0") + "\" = 0",
            "joy(0, 4095) ! -849", "joy(0, 4096) ! -10002", "joy(1, 4095) ! -10001");
        Runs.told(sentence, "pigeon(0, 0) = 0", cheers(0, 9), "joy(0, 2048) ! 5", "joy(0, 4095) ! 60",
            "loft \"" + clauses(8, "glad 99 p=0") + "\" = 0", "joy(0, 4095) ! 852",
            "loft \"glad 10 p=0;grim 3 p=0;glad 5 p=1;grim 9 p=1\" = 1", "joy(0, 0) ! 7", cheers(0, 4), "joy(0, 4095) ! 7");
    }

    private static void joyOfDull() {
        StringBuilder dull = new StringBuilder("pigeon(2, 9) = 0\n");
        StringBuilder old = new StringBuilder("pigeon(5, 9) = 0\npigeon(0, 0) = 1\n");
        int[] halves = {-2, -1, -1, 0, 0, 0, 1, 1, 2, 2};
        for (int cheer = 0; cheer <= 9; cheer++) {
            dull.append("phrase(0, 0, " + cheer + ") * 1\njoy(0, 1) ! " + halves[cheer] + "\n");
            old.append("phrase(0, 0, " + cheer + ") * 1\njoy(0, 1) ! " + halves[cheer] + "\n");
        }
        Runs.told("Terms: DULL: the half (cut toward 0) of SUM.", dull.toString(), "joy(0, 0) ! 0");
        old.append("letter(1, 1022) = 0\npass(1) = 1\ntold(2) ! 255\n");
        for (int cheer = 0; cheer <= 9; cheer++) {
            old.append("phrase(0, 0, " + cheer + ") * 1\njoy(0, 1) ! " + (halves[cheer] + 8) + "\n");
        }
        Runs.told("Terms: OLD: as DULL, and how many FACTS are KNOWN.", old.toString(), "joy(0, 0) ! 8");
    }

    private static void joyOfKeen() {
        Runs.told("Terms: KEEN: SUM, less the least CHEER of the WORDS (0 without WORDS).", "pigeon(3, 9) = 0",
            "joy(0, 0) ! 0", "phrase(0, 0, 9) = 5", "phrase(11, 0, 0) = 5", "joy(0, 1) ! -4", "joy(0, 2) ! -4",
            "joy(0, 2048) ! -4", "joy(0, 3) ! 1", "joy(0, 2049) ! 1", "joy(0, 4095) ! 11",
            "tire(0, 9) = 0", "joy(0, 0) ! -9", "loft \"glad 12 n=0\" = 0", "joy(0, 0) ! 3");
        StringBuilder text = new StringBuilder("pigeon(6, 9) = 0\njoy(0, 0) ! 0\njoy(0, 1) ! -4\njoy(0, 3) ! -3\n"
            + "joy(0, 7) ! -2\n");
        int[] row = {9, 0, 5, 7};
        for (int part = 0; part < 4; part++) {
            text.append("row(0, " + part + ", " + row[part] + ") = 0\n");
        }
        for (int n = 0; n <= 12; n++) {
            text.append("joy(0, " + ((1 << n) - 1) + ") ! " + (n - (n > 0 ? 5 : 0) + row[n % 4]) + "\n");
        }
        Runs.told("Terms: TOLD: as KEEN, and its ROW (four numbers 0 .. 9; 0 at first) at how many WORDS there are modulo 4"
            + " more.", text.toString());
    }

    private static void joyOfFancy() {
        Runs.told("Terms: PIGEON: SUM. FANCY: SUM and v.", """
            pigeon(0, 9) = 0
            pigeon(1, 0) = 1
            pigeon(1, 9) = 2
            joy(0, 0) ! 0
            joy(1, 0) ! 0
            joy(2, 0) ! 9
            joy(0, 3) ! 2
            joy(1, 3) ! 2
            joy(2, 3) ! 11
            tire(2, 9) = 0
            joy(2, 0) ! 0
            """);
        Runs.told("Terms: FAST: as FANCY, less twice TIRED.", """
            pigeon(4, 9) = 0
            joy(0, 0) ! 9
            tire(0, 1) = 0
            joy(0, 0) ! 6
            tire(0, 3) = 1
            joy(0, 0) ! 0
            tire(0, 9) = 3
            joy(0, 0) ! -18
            """);
    }

    private static void joyBelowNought() {
        StringBuilder text = new StringBuilder("phrase(0, 0, 0) = 5\n");
        int[] dues = {-13, -12, -6, -13, -28, -6};
        for (int kind = 0; kind < 6; kind++) {
            text.append("pigeon(" + kind + ", " + (kind == 4 ? 3 : 1) + ") = " + kind + "\ntire(" + kind + ", 9) = 0\n");
        }
        for (int kind = 0; kind < 6; kind++) {
            text.append("joy(" + kind + ", 1) ! " + dues[kind] + "\n");
        }
        Runs.told("Terms: JOY of a PIGEON and a set of WORDS (may be below 0):", text.toString());
    }

    private static void will() {
        StringBuilder text = new StringBuilder("pigeon(0, 0) = 0\nletter(0, 1) = 0\n");
        for (int cheer = 0; cheer <= 9; cheer++) {
            int isWill = cheer - 4 > 0 ? 1 : 0;
            text.append("phrase(0, 0, " + cheer + ") * 1\njoy(0, 1) ! " + (cheer - 4) + "\nof(0, 5) ! " + isWill + "\n");
            text.append("told(3) ! " + isWill + "\non(1, 0) ! " + isWill + "\nbirds(1) ! " + (isWill == 1 ? 1 : -5) + "\n");
        }
        Runs.told("Terms: It WILL fly with WORDS, if JOY is above 0.", text.toString());
    }

    public static void main(String[] args) {
        numbers();
        pigeons();
        wholeText();
        clauses();
        blanksAndNumbers();
        expressions();
        tests();
        depth();
        faults();
        newest();
        sums();
        joyOfFancy();
        joyOfDull();
        joyOfKeen();
        joyBelowNought();
        will();
        Runs.ends();
    }
}
