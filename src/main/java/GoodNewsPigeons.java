/**
 * Pigeons that carry only good news: words, letters, lofts, days, and what is asked about them.
 * The promises that this class keeps stand in DOC.md; the words in capitals are that document's.
 */
public final class GoodNewsPigeons {
    public static final int NONE = -1, BAD = -2, STATE = -3, FULL = -4;
    public static final long NO = Long.MIN_VALUE;

    private static final int WITHOUT = -5;
    private static final int NOTHING = -11, CAST = -12, PLACE = -13, SIZE = -14;
    private static final int JOY_NONE = -10001, JOY_BAD = -10002;
    private static final int FAULT_AT_START = -10;
    private static final int ROW_ENDED = 100;

    private static final int WORDS = 12, ALL_WORDS = 4095, MOST_CHEER = 9;
    private static final int FACTS = 8, ALL_FACTS = 255;
    private static final int PIGEONS = 6, KINDS = 7, TOLD_KIND = 6, MOST_V = 9, MOST_TIRED = 9, MOST_FLOWN = 9999;
    private static final int ROW_PARTS = 4, MOST_IN_ROW = 9;
    private static final int DAYS_AT_ONCE = 60, LAST_DAY = 9999;
    private static final int TEXT_BYTES = 100, LAST_SIGN = 127, LOFTS = 6, CLAUSES = 10, DEEPEST = 4;
    private static final int SEEN_ROWS = 5, PLAN_ROWS = 10, BOOK_ROWS = 8;
    private static final int TAPES = 6, TAPE_ITEMS = 60, SORTS = 5, INTS = 2, TRACE_BODIES = 20;

    private final State now = new State();
    private final State tried = new State();
    private final State kept = new State();
    private boolean isKept;
    private final byte[] text = new byte[TEXT_BYTES];
    private int textSize;
    private final Loft[] lofts = new Loft[LOFTS];
    private int loftCount;
    private final int[] gains = new int[WORDS + 1];
    private final Act acted = new Act();
    private final int[] tapeSorts = new int[TAPES];
    private final int[] tapeSizes = new int[TAPES];
    private final long[][] tapeItems = new long[TAPES][TAPE_ITEMS];

    public GoodNewsPigeons() {
        for (int i = 0; i < LOFTS; i++) {
            lofts[i] = new Loft();
        }
        for (int t = 0; t < TAPES; t++) {
            tapeSorts[t] = -1;
        }
    }

    // ---- pigeons, words, lofts

    public int pigeon(int kind, int v) {
        if (!isUpTo(kind, KINDS - 1)) {
            return NONE;
        }
        if (!isUpTo(v, MOST_V)) {
            return BAD;
        }
        if (now.size >= PIGEONS) {
            return FULL;
        }
        return now.comes(kind, v);
    }

    public int of(int pigeon, int what) {
        if (!isPigeon(pigeon)) {
            return NONE;
        }
        switch (what) {
            case 0: return now.kind[pigeon];
            case 1: return now.v[pigeon];
            case 2: return now.letter[pigeon];
            case 3: return now.tired[pigeon];
            case 4: return now.flown[pigeon];
            case 5: return now.willFlyOff(pigeon) ? 1 : 0;
            case 6: return spareOf(pigeon);
            default: return NONE;
        }
    }

    public int joy(int pigeon, int words) {
        if (!isPigeon(pigeon)) {
            return JOY_NONE;
        }
        if (!isUpTo(words, ALL_WORDS)) {
            return JOY_BAD;
        }
        return now.gladness(pigeon, words);
    }

    public int letter(int pigeon, int words) {
        if (!isPigeon(pigeon)) {
            return NONE;
        }
        if (!isUpTo(words, ALL_WORDS)) {
            return BAD;
        }
        int before = now.letter[pigeon];
        now.letter[pigeon] = words;
        return before;
    }

    public int tire(int pigeon, int n) {
        if (!isPigeon(pigeon)) {
            return NONE;
        }
        if (!isUpTo(n, MOST_TIRED)) {
            return BAD;
        }
        int before = now.tired[pigeon];
        now.tired[pigeon] = n;
        return before;
    }

    public int phrase(int word, int what, int n) {
        if (!isWord(word) || !isUpTo(what, 1)) {
            return NONE;
        }
        if (!isUpTo(n, what == 0 ? MOST_CHEER : ALL_FACTS)) {
            return BAD;
        }
        int[] ofWords = what == 0 ? now.cheer : now.means;
        int before = ofWords[word];
        ofWords[word] = n;
        return before;
    }

    public int row(int pigeon, int part, int n) {
        if (!isPigeon(pigeon) || !isUpTo(part, ROW_PARTS - 1)) {
            return NONE;
        }
        if (!isUpTo(n, MOST_IN_ROW)) {
            return BAD;
        }
        if (now.kind[pigeon] != TOLD_KIND) {
            return STATE;
        }
        int place = pigeon * ROW_PARTS + part;
        int before = now.rows[place];
        now.rows[place] = n;
        return before;
    }

    public int feed(int sign) {
        if (!isUpTo(sign, LAST_SIGN)) {
            return BAD;
        }
        if (textSize >= TEXT_BYTES) {
            return FULL;
        }
        text[textSize] = (byte) sign;
        textSize++;
        return textSize;
    }

    public int loft() {
        if (loftCount >= LOFTS) {
            return FULL;
        }
        // No State knows this one before it is counted, so a FAULT may leave it half read.
        Loft next = lofts[loftCount];
        int fault = next.faultOf(text, textSize);
        textSize = 0;
        if (fault >= 0) {
            return FAULT_AT_START - fault;
        }
        now.loft = next;
        loftCount++;
        return loftCount - 1;
    }

    public int told(int what) {
        if (what >= 60) {
            return isWord(what - 60) ? cheersOf(what - 60) : NONE;
        }
        if (what >= 50) {
            return what - 50 < FACTS ? comesOf(what - 50) : NONE;
        }
        if (what >= 30) {
            return isWord(what - 30) ? now.means[what - 30] : NONE;
        }
        if (what >= 10) {
            return isWord(what - 10) ? now.cheer[what - 10] : NONE;
        }
        switch (what) {
            case 0: return now.day;
            case 1: return now.loft.rest;
            case 2: return now.known;
            case 3: return willing();
            default: return NONE;
        }
    }

    // ---- days, letters

    public int pass(int n) {
        if (!isUpTo(n, DAYS_AT_ONCE)) {
            return BAD;
        }
        if (now.day + n > LAST_DAY) {
            return STATE;
        }
        now.daysGo(n);
        for (int p = 0; p < now.size; p++) {
            now.flown[p] = Math.min(MOST_FLOWN, now.flown[p]);
        }
        return now.day;
    }

    public int on(int n, int what) {
        boolean isOfTired = isPigeon(what - 10);
        boolean isOfLetter = isPigeon(what - 20);
        if (what != 0 && !isOfTired && !isOfLetter) {
            return NONE;
        }
        if (!isUpTo(n, DAYS_AT_ONCE)) {
            return BAD;
        }
        tried.becomes(now);
        tried.daysGo(n);
        if (isOfTired) {
            return tried.tired[what - 10];
        }
        return isOfLetter ? tried.letter[what - 20] : tried.known;
    }

    public int wording(int pigeon, int facts) {
        if (!isPigeon(pigeon)) {
            return NONE;
        }
        if (!isUpTo(facts, ALL_FACTS)) {
            return BAD;
        }
        // What the LOFT gives hangs on how many WORDS there are alone: 13 readings do for 4096 sets.
        for (int n = 0; n <= WORDS; n++) {
            gains[n] = now.loft.gainBy(now, pigeon, n);
        }
        int best = WITHOUT;
        int fewest = WORDS + 1;
        for (int set = 0; set <= ALL_WORDS; set++) {
            int n = Integer.bitCount(set);
            if (n < fewest && (facts & ~now.meaningOf(set)) == 0 && now.gladnessBy(pigeon, set, gains[n]) > 0) {
                best = set;
                fewest = n;
            }
        }
        return best;
    }

    public int birds(int facts) {
        if (!isUpTo(facts, ALL_FACTS)) {
            return BAD;
        }
        int able = willing();
        int best = WITHOUT;
        int fewest = PIGEONS + 1;
        for (int set = 0; set < 1 << PIGEONS; set++) {
            int n = Integer.bitCount(set);
            if (n < fewest && (set & ~able) == 0 && (facts & ~broughtBy(set)) == 0) {
                best = set;
                fewest = n;
            }
        }
        return best;
    }

    // ---- seen, odds

    public int see(int pigeon, int words, boolean isFlown) {
        if (pigeon == -1) {
            return now.seen.empties();
        }
        if (!isPigeon(pigeon)) {
            return NONE;
        }
        if (!isUpTo(words, ALL_WORDS)) {
            return BAD;
        }
        return now.seen.takes(pigeon, words, isFlown ? 1 : 0);
    }

    public int can(int pigeon, int what) {
        if (!isPigeon(pigeon) || !isUpTo(what, 1)) {
            return NONE;
        }
        tried.becomes(now);
        int all = 0;
        int least = WITHOUT;
        for (int v = MOST_V; v >= 0; v--) {
            tried.v[pigeon] = v;
            if (tried.isSeenSo()) {
                all++;
                least = v;
            }
        }
        return what == 0 ? all : least;
    }

    public long odds(int pigeon, int part) {
        if (!isPigeon(pigeon) || !isUpTo(part, 1)) {
            return NO;
        }
        int good = 0;
        for (int w = 0; w < WORDS; w++) {
            if (now.gladness(pigeon, now.letter[pigeon] | 1 << w) > 0) {
                good++;
            }
        }
        return lowestTerm(good, WORDS, part);
    }

    public long mean(int part) {
        if (!isUpTo(part, 1)) {
            return NO;
        }
        int all = 0;
        int letters = 0;
        for (int p = 0; p < now.size; p++) {
            if (now.letter[p] != 0) {
                all += now.gladness(p, now.letter[p]);
                letters++;
            }
        }
        return letters == 0 ? NO : lowestTerm(all, letters, part);
    }

    // ---- plans, books

    public int plan(int what, int n) {
        if (what == -1) {
            return now.plan.empties();
        }
        if (!isUpTo(what, 3)) {
            return NONE;
        }
        if (((what == 1 || what == 2) && !isPigeon(n)) || (what == 3 && !isWord(n))) {
            return NONE;
        }
        return now.plan.takes(what, n, 0);
    }

    public int ends(int what) {
        if (!isUpTo(what, 1)) {
            return NONE;
        }
        tried.becomes(now);
        for (int r = 0; r < now.plan.size; r++) {
            tried.planned(now.plan.first[r], now.plan.second[r]);
        }
        return what == 0 ? tried.known : tried.flownByAll();
    }

    public int book(int word, int cheer) {
        if (word == -1) {
            return now.book.empties();
        }
        if (!isWord(word)) {
            return NONE;
        }
        if (!isUpTo(cheer, MOST_CHEER)) {
            return BAD;
        }
        return now.book.takes(word, cheer, 0);
    }

    public int looked() {
        for (int r = 0; r < now.book.size; r++) {
            if (now.cheer[now.book.first[r]] != now.book.second[r]) {
                return r;
            }
        }
        return WITHOUT;
    }

    // ---- judging, the image, acts, tapes

    public int judge(int tape, int i) {
        if (!isTape(tape)) {
            return NONE;
        }
        if (tapeSorts[tape] < 0) {
            return ROW_ENDED;
        }
        if (tapeSorts[tape] != INTS) {
            return CAST;
        }
        if (!isPlace(tape, i)) {
            return ROW_ENDED;
        }
        for (int w = 0; w < WORDS; w++) {
            if (i + w >= tapeSizes[tape]) {
                return ROW_ENDED + w;
            }
            if (tapeItems[tape][i + w] != now.cheer[w]) {
                return w;
            }
        }
        return WITHOUT;
    }

    public int image() {
        kept.becomes(now);
        isKept = true;
        return kept.size;
    }

    public int undo() {
        if (!isKept) {
            return STATE;
        }
        now.becomes(kept);
        return now.size;
    }

    public int act(int pigeon, int act, int x) {
        if (!isPigeon(pigeon) || !isUpTo(act, 2)) {
            acted.starts(0, 0);
            return 0;
        }
        acted.starts(pigeon, now.v[pigeon]);
        Pigeon one = now.kinds[now.kind[pigeon]];
        switch (act) {
            case 0: return one.coos(acted, x);
            case 1: return one.flies(acted, x);
            default: return one.tells(acted, x);
        }
    }

    public int trace(int i) {
        return i >= 0 && i < acted.ran && i < TRACE_BODIES ? acted.bodies[i] : NONE;
    }

    public int taken(int pigeon, int k) {
        if (!isUpTo(k, KINDS - 1)) {
            return BAD;
        }
        if (!isPigeon(pigeon)) {
            return NOTHING;
        }
        int kind = now.kind[pigeon];
        return isUnder(now.kinds[kind], k) ? kind : CAST;
    }

    public int count(int what) {
        switch (what) {
            case 0: return now.size;
            case 1: return loftCount;
            case 2: return now.seen.size;
            case 3: return now.plan.size;
            case 4: return now.book.size;
            case 5: return textSize;
            case 6: return acted.ran;
            default: return BAD;
        }
    }

    public int tape(int tape, int sort, int n) {
        if (!isTape(tape)) {
            return NONE;
        }
        if (sort != -1 && (!isUpTo(sort, SORTS - 1) || n > TAPE_ITEMS)) {
            return BAD;
        }
        if (sort != -1 && n < 0) {
            return SIZE;
        }
        tapeSorts[tape] = sort;
        tapeSizes[tape] = sort == -1 ? 0 : n;
        for (int i = 0; i < TAPE_ITEMS; i++) {
            tapeItems[tape][i] = 0;
        }
        return 1;
    }

    public int item(int tape, int i, long v) {
        if (!isTape(tape)) {
            return NONE;
        }
        if (tapeSorts[tape] < 0) {
            return NOTHING;
        }
        if (!isPlace(tape, i)) {
            return PLACE;
        }
        tapeItems[tape][i] = cut(tapeSorts[tape], v);
        return 1;
    }

    public long read(int tape, int i) {
        return isTape(tape) && isPlace(tape, i) ? tapeItems[tape][i] : NO;
    }

    public int shift(int tape, int i, int other, int j, int n) {
        if (!isTape(tape) || !isTape(other)) {
            return NONE;
        }
        if (tapeSorts[tape] < 0 || tapeSorts[other] < 0) {
            return NOTHING;
        }
        if (tapeSorts[tape] != tapeSorts[other]) {
            return CAST;
        }
        // By taking n from the sizes, not adding it to the places, nothing wraps.
        if (n < 0 || i < 0 || j < 0 || i > tapeSizes[tape] - n || j > tapeSizes[other] - n) {
            return PLACE;
        }
        System.arraycopy(tapeItems[tape], i, tapeItems[other], j, n);
        return n;
    }

    // ---- what the calls share

    private static boolean isUpTo(int n, int most) {
        return n >= 0 && n <= most;
    }

    private boolean isPigeon(int pigeon) {
        return pigeon >= 0 && pigeon < now.size;
    }

    private static boolean isWord(int word) {
        return word >= 0 && word < WORDS;
    }

    private static boolean isTape(int tape) {
        return tape >= 0 && tape < TAPES;
    }

    private boolean isPlace(int tape, int i) {
        return i >= 0 && i < tapeSizes[tape];
    }

    private static long cut(int sort, long v) {
        switch (sort) {
            case 0: return (byte) v;
            case 1: return (short) v;
            case 2: return (int) v;
            case 3: return v;
            default: return v != 0 ? 1 : 0;
        }
    }

    private static boolean isUnder(Pigeon one, int k) {
        switch (k) {
            case 0: return true;
            case 1: return one instanceof Fancy;
            case 2: return one instanceof Dull;
            case 3: return one instanceof Keen;
            case 4: return one instanceof Fast;
            case 5: return one instanceof Old;
            default: return one instanceof Told;
        }
    }

    private static long lowestTerm(int above, int below, int part) {
        int by = 1;
        for (int d = 2; d <= below; d++) {
            if (above % d == 0 && below % d == 0) {
                by = d;
            }
        }
        return (part == 0 ? above : below) / by;
    }

    private int willing() {
        int bits = 0;
        for (int p = 0; p < now.size; p++) {
            if (now.willFlyOff(p)) {
                bits |= 1 << p;
            }
        }
        return bits;
    }

    private int broughtBy(int birds) {
        int facts = now.known;
        for (int p = 0; p < now.size; p++) {
            if ((birds >> p & 1) != 0) {
                facts |= now.meaningOf(now.letter[p]);
            }
        }
        return facts;
    }

    private int spareOf(int pigeon) {
        int words = now.letter[pigeon];
        int best = WITHOUT;
        int most = now.gladness(pigeon, words);
        for (int w = 0; w < WORDS; w++) {
            if ((words >> w & 1) != 0) {
                int without = now.gladness(pigeon, words & ~(1 << w));
                if (without > most) {
                    best = w;
                    most = without;
                }
            }
        }
        return best;
    }

    private int comesOf(int fact) {
        tried.becomes(now);
        for (int n = 0; n <= DAYS_AT_ONCE; n++) {
            if ((tried.known >> fact & 1) != 0) {
                return n;
            }
            tried.daysGo(1);
        }
        return WITHOUT;
    }

    private int cheersOf(int word) {
        tried.becomes(now);
        int bits = 0;
        for (int cheer = 0; cheer <= MOST_CHEER; cheer++) {
            tried.cheer[word] = cheer;
            if (tried.isSeenSo()) {
                bits |= 1 << cheer;
            }
        }
        return bits;
    }

    /** How all is at one time: now, in THE IMAGE, or in what is tried out so that now stays as it is. */
    private static final class State {
        final Pigeon[] kinds = new Pigeon[KINDS];
        final int[] cheer = new int[WORDS];
        final int[] means = new int[WORDS];
        final int[] kind = new int[PIGEONS];
        final int[] v = new int[PIGEONS];
        final int[] letter = new int[PIGEONS];
        final int[] tired = new int[PIGEONS];
        final int[] flown = new int[PIGEONS];
        final int[] rows = new int[PIGEONS * ROW_PARTS];
        final Rows seen = new Rows(SEEN_ROWS);
        final Rows plan = new Rows(PLAN_ROWS);
        final Rows book = new Rows(BOOK_ROWS);
        int size;
        int known;
        int day;
        Loft loft = new Loft();

        State() {
            kinds[0] = new Pigeon();
            kinds[1] = new Fancy();
            kinds[2] = new Dull();
            kinds[3] = new Keen();
            kinds[4] = new Fast();
            kinds[5] = new Old();
            kinds[6] = new Told();
            for (int w = 0; w < WORDS; w++) {
                cheer[w] = 5;
                means[w] = 1 << w % FACTS;
            }
        }

        void becomes(State other) {
            System.arraycopy(other.cheer, 0, cheer, 0, WORDS);
            System.arraycopy(other.means, 0, means, 0, WORDS);
            System.arraycopy(other.kind, 0, kind, 0, PIGEONS);
            System.arraycopy(other.v, 0, v, 0, PIGEONS);
            System.arraycopy(other.letter, 0, letter, 0, PIGEONS);
            System.arraycopy(other.tired, 0, tired, 0, PIGEONS);
            System.arraycopy(other.flown, 0, flown, 0, PIGEONS);
            System.arraycopy(other.rows, 0, rows, 0, PIGEONS * ROW_PARTS);
            seen.becomeAs(other.seen);
            plan.becomeAs(other.plan);
            book.becomeAs(other.book);
            size = other.size;
            known = other.known;
            day = other.day;
            loft = other.loft;
        }

        // Behind the last PIGEON all is 0 still: PIGEONS go by undo() alone, which copies these places, too.
        int comes(int itsKind, int itsV) {
            kind[size] = itsKind;
            v[size] = itsV;
            size++;
            return size - 1;
        }

        int gladness(int p, int words) {
            return gladnessBy(p, words, loft.gainBy(this, p, Integer.bitCount(words)));
        }

        int gladnessBy(int p, int words, int gain) {
            int sum = gain - tired[p];
            for (int w = 0; w < WORDS; w++) {
                if ((words >> w & 1) != 0) {
                    sum += cheer[w] - 4;
                }
            }
            return kinds[kind[p]].joyFrom(sum, this, p, words);
        }

        boolean willFlyOff(int p) {
            return letter[p] != 0 && gladness(p, letter[p]) > 0;
        }

        int meaningOf(int words) {
            int facts = 0;
            for (int w = 0; w < WORDS; w++) {
                if ((words >> w & 1) != 0) {
                    facts |= means[w];
                }
            }
            return facts;
        }

        void daysGo(int n) {
            int rest = loft.rest;
            for (int d = 0; d < n; d++) {
                for (int p = 0; p < size; p++) {
                    if (willFlyOff(p)) {
                        known |= meaningOf(letter[p]);
                        letter[p] = 0;
                        tired[p] = Math.min(MOST_TIRED, tired[p] + 2);
                        flown[p]++;
                    } else {
                        tired[p] = Math.max(0, tired[p] - rest);
                    }
                }
                day++;
            }
        }

        void planned(int what, int n) {
            switch (what) {
                case 0: daysGo(1); break;
                case 1: letter[n] = 0; break;
                case 2: tired[n] = 0; break;
                default: cheer[n] = MOST_CHEER; break;
            }
        }

        int flownByAll() {
            int all = 0;
            for (int p = 0; p < size; p++) {
                all += flown[p];
            }
            return all;
        }

        boolean isSeenSo() {
            for (int r = 0; r < seen.size; r++) {
                boolean isFlown = gladness(seen.first[r], seen.second[r]) > 0;
                if (isFlown != (seen.third[r] != 0)) {
                    return false;
                }
            }
            return true;
        }
    }

    /** Rows told by hand, up to a limit: what is SEEN, the PLAN, the BOOK. */
    private static final class Rows {
        final int[] first;
        final int[] second;
        final int[] third;
        int size;

        Rows(int limit) {
            first = new int[limit];
            second = new int[limit];
            third = new int[limit];
        }

        int takes(int a, int b, int c) {
            if (size >= first.length) {
                return FULL;
            }
            first[size] = a;
            second[size] = b;
            third[size] = c;
            size++;
            return size;
        }

        int empties() {
            size = 0;
            return size;
        }

        void becomeAs(Rows other) {
            size = other.size;
            for (int r = 0; r < size; r++) {
                first[r] = other.first[r];
                second[r] = other.second[r];
                third[r] = other.third[r];
            }
        }
    }

    /** A LOFT: read from THE TEXT into steps in postfix order, one piece of them for each glad or grim. */
    private static final class Loft {
        private static final String LETTERS = "pkvtnd", RELATIONS = "<=>";
        private static final int NOT = -1, AND = -2, OR = -3;

        private final byte[] text = new byte[TEXT_BYTES];
        private int end;
        private int at;
        private final int[] steps = new int[TEXT_BYTES];
        private int stepCount;
        private final int[] weights = new int[CLAUSES];
        private final int[] starts = new int[CLAUSES + 1];
        private int weighed;
        private final int[] numbers = new int[LETTERS.length()];
        int rest = 1;

        /** The FAULT of the first of these bytes, as many as told; -1 if there is none. */
        int faultOf(byte[] bytes, int size) {
            end = Math.min(size, TEXT_BYTES);
            System.arraycopy(bytes, 0, text, 0, end);
            at = 0;
            stepCount = 0;
            weighed = 0;
            rest = 1;
            for (int clause = 1; clause <= CLAUSES; clause++) {
                if (!takesClause()) {
                    return at;
                }
                if (at == end) {
                    return -1;
                }
                if (clause == CLAUSES || !takesSign(';')) {
                    return at;
                }
            }
            return at;
        }

        // Whatever takes.. answers false leaves "at" at the FAULT.

        private boolean takesClause() {
            if (takesSign('r')) {
                return takesSigns("est ") && takesRest();
            }
            if (!takesSign('g')) {
                return false;
            }
            boolean isGlad = takesSign('l');
            if (!takesSigns(isGlad ? "ad " : "rim ")) {
                return false;
            }
            int n = takesNumber();
            if (n < 0 || !takesSign(' ') || !takesEither(0) || weighed >= CLAUSES) {
                return false;
            }
            weights[weighed] = isGlad ? n : -n;
            weighed++;
            starts[weighed] = stepCount;
            return true;
        }

        private boolean takesRest() {
            int n = takesNumber();
            if (n < 0) {
                return false;
            }
            rest = n;
            return true;
        }

        private boolean takesEither(int depth) {
            for (int part = 0; part < TEXT_BYTES; part++) {
                if (!takesOne(depth)) {
                    return false;
                }
                for (int more = 0; more < TEXT_BYTES && takesSign('&'); more++) {
                    if (!takesOne(depth)) {
                        return false;
                    }
                    adds(AND);
                }
                if (part > 0) {
                    adds(OR);
                }
                if (!takesSign('|')) {
                    return true;
                }
            }
            return false;
        }

        private boolean takesOne(int depth) {
            if (depth < DEEPEST && takesSign('!')) {
                if (!takesOne(depth + 1)) {
                    return false;
                }
                adds(NOT);
                return true;
            }
            if (depth < DEEPEST && takesSign('(')) {
                return takesEither(depth + 1) && takesSign(')');
            }
            return takesTest();
        }

        private boolean takesTest() {
            int letter = takesOneOf(LETTERS);
            if (letter < 0) {
                return false;
            }
            int relation = takesOneOf(RELATIONS);
            if (relation < 0) {
                return false;
            }
            int n = takesNumber();
            if (n < 0) {
                return false;
            }
            adds((letter * 3 + relation) * 100 + n);
            return true;
        }

        private boolean takesSign(char sign) {
            if (at >= end || text[at] != sign) {
                return false;
            }
            at++;
            return true;
        }

        private boolean takesSigns(String signs) {
            for (int i = 0; i < signs.length(); i++) {
                if (!takesSign(signs.charAt(i))) {
                    return false;
                }
            }
            return true;
        }

        private int takesOneOf(String signs) {
            for (int i = 0; i < signs.length(); i++) {
                if (takesSign(signs.charAt(i))) {
                    return i;
                }
            }
            return -1;
        }

        private int takesNumber() {
            int n = -1;
            for (int digit = 0; digit < 2 && at < end && text[at] >= '0' && text[at] <= '9'; digit++) {
                n = Math.max(n, 0) * 10 + text[at] - '0';
                at++;
            }
            return n;
        }

        private void adds(int step) {
            if (stepCount < steps.length) {
                steps[stepCount] = step;
                stepCount++;
            }
        }

        /** What all glad and grim make together for PIGEON p of a State and n WORDS. */
        int gainBy(State state, int p, int n) {
            numbers[0] = p;
            numbers[1] = state.kind[p];
            numbers[2] = state.v[p];
            numbers[3] = state.tired[p];
            numbers[4] = n;
            numbers[5] = state.day % 10;
            int gain = 0;
            for (int c = 0; c < weighed; c++) {
                if (isSo(starts[c], starts[c + 1])) {
                    gain += weights[c];
                }
            }
            return gain;
        }

        /** The bits of "stack" are what holds so far; four brackets deep, no more than eleven wait there. */
        private boolean isSo(int from, int to) {
            int stack = 0;
            for (int s = from; s < to; s++) {
                int step = steps[s];
                if (step >= 0) {
                    stack = (stack << 1) | (isTrue(step) ? 1 : 0);
                } else if (step == NOT) {
                    stack ^= 1;
                } else if (step == AND) {
                    stack = (stack >> 1) & (stack | ~1);
                } else {
                    stack = (stack >> 1) | (stack & 1);
                }
            }
            return (stack & 1) != 0;
        }

        private boolean isTrue(int test) {
            int number = numbers[test / 300];
            int n = test % 100;
            switch (test / 100 % 3) {
                case 0: return number < n;
                case 1: return number == n;
                default: return number > n;
            }
        }
    }

    /** Whose ACT it is, and THE TRACE of it. */
    private static final class Act {
        final int[] bodies = new int[TRACE_BODIES];
        int ran;
        int i;
        int v;

        void starts(int itsNumber, int itsV) {
            ran = 0;
            i = itsNumber;
            v = itsV;
        }

        void begins(int body) {
            if (ran < TRACE_BODIES) {
                bodies[ran] = body;
            }
            ran++;
        }
    }

    /** The KIND that all others are under. A KIND holds nothing of its PIGEONS: State and Act tell of them. */
    private static class Pigeon {
        int joyFrom(int sum, State state, int p, int words) {
            return sum;
        }

        int coos(Act act, int x) {
            act.begins(10);
            return x + act.i;
        }

        int flies(Act act, int x) {
            act.begins(11);
            return coos(act, x) - act.v;
        }

        int tells(Act act, int x) {
            act.begins(12);
            return flies(act, x) * 2;
        }
    }

    private static class Fancy extends Pigeon {
        int joyFrom(int sum, State state, int p, int words) {
            return sum + state.v[p];
        }

        int flies(Act act, int x) {
            act.begins(20);
            return super.flies(act, x) ^ 6;
        }
    }

    private static class Dull extends Pigeon {
        int joyFrom(int sum, State state, int p, int words) {
            return sum / 2;
        }

        int coos(Act act, int x) {
            act.begins(30);
            return super.coos(act, x * 3);
        }
    }

    private static class Keen extends Pigeon {
        int joyFrom(int sum, State state, int p, int words) {
            int least = words == 0 ? 0 : MOST_CHEER;
            for (int w = 0; w < WORDS; w++) {
                if ((words >> w & 1) != 0 && state.cheer[w] < least) {
                    least = state.cheer[w];
                }
            }
            return sum - least;
        }

        int tells(Act act, int x) {
            act.begins(40);
            return super.tells(act, x) + flies(act, 1);
        }
    }

    private static final class Fast extends Fancy {
        int joyFrom(int sum, State state, int p, int words) {
            return super.joyFrom(sum, state, p, words) - 2 * state.tired[p];
        }

        int coos(Act act, int x) {
            act.begins(50);
            return -super.coos(act, x);
        }

        int flies(Act act, int x) {
            act.begins(51);
            return super.flies(act, x + 1);
        }
    }

    private static final class Old extends Dull {
        int joyFrom(int sum, State state, int p, int words) {
            return super.joyFrom(sum, state, p, words) + Integer.bitCount(state.known);
        }

        int tells(Act act, int x) {
            act.begins(60);
            return super.tells(act, x - act.i);
        }
    }

    private static final class Told extends Keen {
        int joyFrom(int sum, State state, int p, int words) {
            int part = Integer.bitCount(words) % ROW_PARTS;
            return super.joyFrom(sum, state, p, words) + state.rows[p * ROW_PARTS + part];
        }

        int flies(Act act, int x) {
            act.begins(70);
            return super.flies(act, x) + super.coos(act, 2);
        }

        int coos(Act act, int x) {
            act.begins(71);
            return super.coos(act, x) ^ act.v;
        }
    }
}
