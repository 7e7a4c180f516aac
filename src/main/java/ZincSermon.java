/**
 * Washboards preach: a CHAPEL is told as a text, then it is asked and acted upon.
 * The words in capitals are those of the document, ../shared/DOC.md.
 */
public final class ZincSermon {
    public static final int NONE = -1;

    private static final int TAPE_MOST = 1600;
    private static final int STATEMENTS_MOST = 80;
    private static final int OPEN_MOST = 7;
    private static final int WEEK_MOST = 999;
    private static final int WATER_MOST = 99;
    private static final int DEEP_MOST = 99;
    private static final int AHEAD_MOST = 40;
    private static final int SERMON_MOST = 40;
    private static final int NEEDED_MOST = 99;
    private static final int WEAR_MOST = 9;
    private static final int RESULT_MOST = 1000000;
    private static final int KEPT_TOLD = 40;
    private static final int ACTS_UNDONE = 20;

    // The sorts that bear a NAME; in a Plan's rows each sort has SORT_SIZE places.
    private static final int BOARDS = 0;
    private static final int STAINS = 1;
    private static final int HEARERS = 2;
    private static final int SORTS = 3;
    private static final int SORT_SIZE = 6;
    private static final int BOARDS_MOST = 5;
    private static final int STAINS_MOST = 6;

    // The OWN WORDS, WORD_SIZE signs each; the numbers behind tell their order there.
    private static final String OWN_WORDS = "board ribs  zinc  stain deep  stuff hearersin   ear   out   wear  saved slide picks water dry   week  rub   bone  came  if    or    and   not   all   min   max   ";
    private static final int WORD_SIZE = 6;
    private static final int BOARD = 0;
    private static final int RIBS = 1;
    private static final int ZINC = 2;
    private static final int STAIN = 3;
    private static final int DEEP = 4;
    private static final int STUFF = 5;
    private static final int HEARER = 6;
    private static final int SIN = 7;
    private static final int EAR = 8;
    private static final int OUT = 9;
    private static final int WEAR = 10;
    private static final int SAVED = 11;
    private static final int SLIDE = 12;
    private static final int PICKS = 13;
    private static final int WATER = 14;
    private static final int DRY = 15;
    private static final int WEEK = 16;
    private static final int RUB = 17;
    private static final int BONE = 18;
    private static final int CAME = 19;
    private static final int IF = 20;
    private static final int OR = 21;
    private static final int AND = 22;
    private static final int NOT = 23;
    private static final int ALL = 24;
    private static final int MIN = 25;
    private static final int MAX = 26;

    // SUMS and TESTS are held as steps on a stack: a step's kind above STEP_BITS, its number below.
    // Those up to PUT_NAMED take no values, those up to DO_REST reckon with two.
    private static final int STEP_BITS = 14;
    private static final int PUT_NUMBER = 0;
    private static final int PUT_NAMED = 1;
    private static final int DO_ADD = 2;
    private static final int DO_LESS = 3;
    private static final int DO_TIMES = 4;
    private static final int DO_SHARE = 5;
    private static final int DO_REST = 6;
    private static final int DO_MIN = 7;
    private static final int DO_MAX = 8;
    private static final int IS_BELOW = 9;
    private static final int IS_ABOVE = 10;
    private static final int IS_LIKE = 11;
    private static final int DO_OR = 12;
    private static final int DO_AND = 13;
    private static final int DO_NOT = 14;
    private static final int DO_CHOOSE = 15;
    // Seven that are open keep at most five values waiting each: 41 in all.
    private static final int STACK_SIZE = 64;

    // What was refused, by the numbers of status().
    private static final int REFUSED_TAPE = 0;
    private static final int REFUSED_CHAPEL = 1;
    private static final int REFUSED_WEEKS = 2;
    private static final int REFUSED_ACT = 3;
    private static final int REFUSED_UNDO = 4;
    private static final int REFUSED_OTHER = 5;

    private final byte[] tape = new byte[TAPE_MOST];
    private int tapeSize = 0;
    private Plan plan = new Plan(0);
    private int faultKind = 0;
    private int faultPlace = NONE;
    private final State now = new State();
    private final State ahead = new State();
    private final Preacher preacher = new Preacher(plan);
    private final Acts acts = new Acts();
    private final Kept log = new Kept();
    private final Seen seen = new Seen(preacher, now);
    private final MatchFinder matchFinder = new MatchFinder(preacher, now);
    private final HeadFinder headFinder = new HeadFinder(preacher, now);
    private long drawn = 1;
    private final int[] bytes = new int[3 + BOARDS_MOST + STAINS_MOST + SORT_SIZE + 1];
    private int bytesSize = 0;
    private final int[] refused = new int[REFUSED_OTHER + 1];

    public ZincSermon() {
    }

    // ---- the tape and the text

    public int feed(int a, int b, int c, int d, int e) {
        if (tapeSize > TAPE_MOST - 20) {
            return refuse(REFUSED_TAPE);
        }
        putFour(a);
        putFour(b);
        putFour(c);
        putFour(d);
        putFour(e);
        return tapeSize;
    }

    private void putFour(int number) {
        for (int shift = 24; shift >= 0 && tapeSize < TAPE_MOST; shift -= 8) {
            tape[tapeSize] = (byte) (number >> shift);
            tapeSize++;
        }
    }

    public boolean end(int n) {
        if (n < 0 || n > tapeSize) {
            return deny(REFUSED_TAPE);
        }
        tapeSize = n;
        return true;
    }

    public int chapel() {
        Parser parser = new Parser(tape, tapeSize);
        parser.parse();
        tapeSize = 0;
        faultKind = parser.fault;
        faultPlace = parser.place;
        if (faultKind != 0) {
            return refuse(REFUSED_CHAPEL);
        }
        plan = parser.plan;
        preacher.plan = plan;
        now.begin(plan);
        acts.forget();
        seen.rows = 0;
        forgetAnswers();
        return plan.statements;
    }

    public int fault(int what) {
        if (what == 0) {
            return faultKind;
        }
        return what == 1 ? faultPlace : NONE;
    }

    // ---- what there is

    public int has(int what) {
        switch (what) {
            case 0:
                return plan.count[BOARDS];
            case 1:
                return plan.count[STAINS];
            case 2:
                return plan.count[HEARERS];
            case 3:
                return now.week;
            case 4:
                return now.water;
            case 5:
                return now.stainsLeft();
            case 6:
                return bareBoards();
            case 7:
                return Integer.bitCount(now.savedBits);
            case 8:
                return Math.min(KEPT_TOLD, now.sermons);
            case 9:
                return seen.rows;
            case 10:
                return acts.count;
            case 11:
                return (int) drawn;
            default:
                return NONE;
        }
    }

    private int bareBoards() {
        int bare = 0;
        for (int board = 0; board < plan.count[BOARDS]; board++) {
            if (now.zinc[board] == 0) {
                bare++;
            }
        }
        return bare;
    }

    public int letter(int kind, int which, int k) {
        if (kind < 0 || kind >= SORTS || k < 0 || k >= WORD_SIZE || !plan.holds(kind, which)) {
            return NONE;
        }
        return plan.names[kind * SORT_SIZE + which] >> 5 * (WORD_SIZE - 1 - k) & 31;
    }

    public int board(int board, int what) {
        if (!plan.holds(BOARDS, board) || what < 0 || what > 1) {
            return NONE;
        }
        return what == 0 ? plan.ribs(board) : now.zinc[board];
    }

    public int stain(int stain, int what) {
        if (!plan.holds(STAINS, stain) || what < 0 || what > 1) {
            return NONE;
        }
        return what == 0 ? now.deep[stain] : plan.stuff(stain);
    }

    public int hearer(int hearer, int what) {
        if (!plan.holds(HEARERS, hearer) || what < 0 || what > 2) {
            return NONE;
        }
        if (what == 2) {
            return now.savedBits >> hearer & 1;
        }
        return what == 0 ? plan.sin(hearer) : plan.ear(hearer);
    }

    // ---- strokes

    public int strokes(int board, int stain, int n) {
        if (!areThere(board, stain) || n < 0 || n > SERMON_MOST) {
            return NONE;
        }
        preacher.lay(now, board, stain);
        preacher.rub(n);
        return preacher.deep;
    }

    public int needed(int board, int stain, int what) {
        if (!areThere(board, stain) || what < 0 || what > 1 || !preacher.bringOut(now, board, stain)) {
            return NONE;
        }
        if (what == 0) {
            return preacher.rubs;
        }
        return preacher.zinc > 0 ? 1 : 0;
    }

    public int best(int stain) {
        if (!plan.holds(STAINS, stain)) {
            return NONE;
        }
        int best = NONE;
        int fewest = NEEDED_MOST + 1;
        for (int board = 0; board < plan.count[BOARDS]; board++) {
            if (preacher.bringOut(now, board, stain) && preacher.rubs < fewest) {
                best = board;
                fewest = preacher.rubs;
            }
        }
        return best;
    }

    public int match(int stain) {
        if (stain != NONE && !plan.holds(STAINS, stain)) {
            return NONE;
        }
        if (!matchFinder.fresh) {
            matchFinder.solve();
        }
        if (matchFinder.fewest == NONE) {
            return NONE;
        }
        return stain == NONE ? matchFinder.fewest : matchFinder.best[stain];
    }

    public int heads(int board, int what) {
        if (!plan.holds(BOARDS, board) || what < 0) {
            return NONE;
        }
        if (headFinder.board != board) {
            headFinder.solve(board);
        }
        if (what == 0) {
            return headFinder.most;
        }
        if (what == 1) {
            return headFinder.fewest;
        }
        return what - 2 < headFinder.most ? headFinder.best[what - 2] : NONE;
    }

    private boolean areThere(int board, int stain) {
        return plan.holds(BOARDS, board) && plan.holds(STAINS, stain);
    }

    // ---- ahead

    public int later(int stain, int n) {
        if (!plan.holds(STAINS, stain) || !canPass(n)) {
            return NONE;
        }
        goAhead(n);
        return ahead.deep[stain];
    }

    public int worn(int board, int n) {
        if (!plan.holds(BOARDS, board) || !canPass(n)) {
            return NONE;
        }
        goAhead(n);
        return ahead.zinc[board];
    }

    public int saved(int n) {
        if (!canPass(n)) {
            return NONE;
        }
        goAhead(n);
        return ahead.savedBits;
    }

    public int clean() {
        ahead.take(now);
        for (int n = 0; n <= AHEAD_MOST && canPass(n); n++) {
            if (ahead.stainsLeft() == 0) {
                return n;
            }
            preacher.passWeek(ahead, false);
        }
        return NONE;
    }

    private boolean canPass(int n) {
        return n >= 0 && n <= AHEAD_MOST && n <= WEEK_MOST - now.week;
    }

    private void goAhead(int n) {
        ahead.take(now);
        for (int k = 0; k < n; k++) {
            preacher.passWeek(ahead, false);
        }
    }

    // ---- which it was

    public int see() {
        int size = tapeSize;
        tapeSize = 0;
        if (!seen.read(tape, size, plan.count[BOARDS])) {
            return refuse(REFUSED_OTHER);
        }
        return seen.rows;
    }

    public int which() {
        return seen.stains();
    }

    public int tells(int board, int what) {
        if (!plan.holds(BOARDS, board) || what < 0 || what > 1) {
            return NONE;
        }
        int stains = seen.stains();
        if (stains == 0) {
            return NONE;
        }
        seen.tell(board, stains);
        return what == 0 ? seen.telling : seen.leftAtMost;
    }

    // ---- acts

    public int weeks(int n) {
        if (n < 1 || !canPass(n)) {
            return refuse(REFUSED_WEEKS);
        }
        beginAct();
        int came = 0;
        for (int k = 0; k < n; k++) {
            keepWeek(false);
            came += preacher.came;
        }
        return came;
    }

    public int chance(int n) {
        if (n < 1 || !canPass(n)) {
            return refuse(REFUSED_WEEKS);
        }
        beginAct();
        int droughts = 0;
        for (int k = 0; k < n; k++) {
            boolean drought = draw(100) < plan.dry;
            keepWeek(drought);
            droughts += drought ? 1 : 0;
        }
        return droughts;
    }

    public int sermon(int board, int stain, int n) {
        if (!areThere(board, stain) || n < 1 || n > SERMON_MOST || now.deep[stain] == 0) {
            return refuse(REFUSED_ACT);
        }
        beginAct();
        preacher.preach(now, board, stain, n);
        keep(now.week);
        return preacher.came;
    }

    public int soil(int stain, int much) {
        if (!plan.holds(STAINS, stain) || much < 1 || much > DEEP_MOST || now.deep[stain] >= DEEP_MOST) {
            return refuse(REFUSED_ACT);
        }
        beginAct();
        now.deep[stain] = Math.min(DEEP_MOST, now.deep[stain] + much);
        return now.deep[stain];
    }

    public boolean mend(int board) {
        if (!plan.holds(BOARDS, board) || now.zinc[board] == plan.zincTold(board)) {
            return deny(REFUSED_ACT);
        }
        beginAct();
        now.zinc[board] = plan.zincTold(board);
        return true;
    }

    public boolean pour(int water) {
        if (water < 0 || water > WATER_MOST || water == now.water) {
            return deny(REFUSED_ACT);
        }
        beginAct();
        now.water = water;
        return true;
    }

    public boolean undo() {
        if (!acts.back(now)) {
            return deny(REFUSED_UNDO);
        }
        forgetAnswers();
        return true;
    }

    public boolean seed(int seed) {
        if (seed < 0) {
            return deny(REFUSED_OTHER);
        }
        drawn = seed;
        return true;
    }

    public int kept(int k, int what) {
        int told = Math.min(KEPT_TOLD, now.sermons);
        if (k < 0 || k >= told || what < 0 || what > 3) {
            return NONE;
        }
        return log.tell(now.sermons - told + k, what);
    }

    private void beginAct() {
        acts.remember(now);
        forgetAnswers();
    }

    /** MATCH and HEADS are dear, so they are kept until something changes. */
    private void forgetAnswers() {
        matchFinder.fresh = false;
        headFinder.board = NONE;
    }

    private void keepWeek(boolean drought) {
        int week = now.week;
        preacher.passWeek(now, drought);
        if (preacher.board != NONE) {
            keep(week);
        }
    }

    private void keep(int week) {
        log.put(now.sermons, week, preacher);
        now.sermons++;
    }

    private int draw(int m) {
        drawn = 1103515245L * drawn + 12345L & 2147483647L;
        return m > 0 ? (int) (drawn / 64 % m) : 0;
    }

    // ---- images, refusals

    public int image() {
        bytes[0] = now.week / 256;
        bytes[1] = now.week % 256;
        bytes[2] = now.water;
        int size = 3;
        for (int board = 0; board < plan.count[BOARDS]; board++) {
            bytes[size++] = now.zinc[board];
        }
        for (int stain = 0; stain < plan.count[STAINS]; stain++) {
            bytes[size++] = now.deep[stain];
        }
        for (int hearer = 0; hearer < plan.count[HEARERS]; hearer++) {
            bytes[size++] = now.savedBits >> hearer & 1;
        }
        int check = 211;
        for (int k = 0; k < size; k++) {
            check = (5 * check + bytes[k]) % 251;
        }
        bytes[size++] = check;
        bytesSize = size;
        return size;
    }

    public int octet(int k) {
        return k >= 0 && k < bytesSize ? bytes[k] : NONE;
    }

    public boolean on() {
        int size = tapeSize;
        tapeSize = 0;
        if (!isImage(size)) {
            return deny(REFUSED_OTHER);
        }
        now.begin(plan);
        now.week = tapeByte(0) * 256 + tapeByte(1);
        now.water = tapeByte(2);
        int at = 3;
        for (int board = 0; board < plan.count[BOARDS]; board++) {
            now.zinc[board] = tapeByte(at++);
        }
        for (int stain = 0; stain < plan.count[STAINS]; stain++) {
            now.deep[stain] = tapeByte(at++);
        }
        for (int hearer = 0; hearer < plan.count[HEARERS]; hearer++) {
            now.savedBits |= tapeByte(at++) << hearer;
        }
        acts.forget();
        forgetAnswers();
        return true;
    }

    private boolean isImage(int size) {
        int boards = plan.count[BOARDS];
        int stains = plan.count[STAINS];
        if (size != 3 + boards + stains + plan.count[HEARERS] + 1) {
            return false;
        }
        boolean good = tapeByte(0) * 256 + tapeByte(1) <= WEEK_MOST && tapeByte(2) <= WATER_MOST;
        int check = 211;
        for (int at = 0; at < size - 1; at++) {
            check = (5 * check + tapeByte(at)) % 251;
            if (at >= 3) {
                good = good && tapeByte(at) <= imageMost(at - 3, boards, stains);
            }
        }
        return good && tapeByte(size - 1) == check;
    }

    /** The greatest byte that an IMAGE can have for its k-th BOARD, STAIN or HEARER. */
    private int imageMost(int k, int boards, int stains) {
        if (k < boards) {
            return plan.zincTold(k);
        }
        return k < boards + stains ? DEEP_MOST : 1;
    }

    private int tapeByte(int at) {
        return at >= 0 && at < TAPE_MOST ? tape[at] & 255 : 0;
    }

    public int status(int what) {
        return what >= 0 && what < refused.length ? refused[what] : NONE;
    }

    private int refuse(int what) {
        refused[what]++;
        return NONE;
    }

    private boolean deny(int what) {
        refused[what]++;
        return false;
    }

    /** What a CHAPEL's text tells; it stays as it is once it is parsed. */
    private static final class Plan {
        final int[] count = new int[SORTS];
        final int[] names = new int[SORTS * SORT_SIZE];
        /** ribs; deep; sin. */
        final int[] first = new int[SORTS * SORT_SIZE];
        /** zinc; stuff; ear. */
        final int[] second = new int[SORTS * SORT_SIZE];
        int water = 0;
        int dry = 0;
        int statements = 0;
        final int[] steps;
        int stepCount = 0;
        /** The steps of out, wear, saved, slide, picks: from here .. to below there; none without. */
        final int[] from = new int[PICKS - OUT + 1];
        final int[] upTo = new int[PICKS - OUT + 1];

        Plan(int stepsMost) {
            steps = new int[Math.max(0, stepsMost)];
        }

        boolean holds(int sort, int which) {
            return which >= 0 && which < count[sort];
        }

        int ribs(int board) {
            return first[BOARDS * SORT_SIZE + board];
        }

        int zincTold(int board) {
            return second[BOARDS * SORT_SIZE + board];
        }

        int deepTold(int stain) {
            return first[STAINS * SORT_SIZE + stain];
        }

        int stuff(int stain) {
            return second[STAINS * SORT_SIZE + stain];
        }

        int sin(int hearer) {
            return first[HEARERS * SORT_SIZE + hearer];
        }

        int ear(int hearer) {
            return second[HEARERS * SORT_SIZE + hearer];
        }

        boolean bears(int name) {
            for (int sort = 0; sort < SORTS; sort++) {
                for (int which = 0; which < count[sort]; which++) {
                    if (names[sort * SORT_SIZE + which] == name) {
                        return true;
                    }
                }
            }
            return false;
        }

        void addThing(int sort, int name, int one, int other) {
            if (count[sort] >= SORT_SIZE) {
                return;
            }
            int at = sort * SORT_SIZE + count[sort];
            names[at] = name;
            first[at] = one;
            second[at] = other;
            count[sort]++;
        }

        private static boolean isRule(int word) {
            return word >= OUT && word <= PICKS;
        }

        /** The steps from here on are those of out, wear, saved, slide or picks; other words have none. */
        void beginRule(int word) {
            if (isRule(word)) {
                from[word - OUT] = stepCount;
            }
        }

        void endRule(int word) {
            if (isRule(word)) {
                upTo[word - OUT] = stepCount;
            }
        }

        boolean hasRule(int word) {
            return isRule(word) && upTo[word - OUT] > from[word - OUT];
        }

        void addStep(int kind, int number) {
            if (stepCount < steps.length) {
                steps[stepCount] = kind << STEP_BITS | number;
                stepCount++;
            }
        }
    }

    /** Reads a text as a CHAPEL; from its first FAULT on it reads no further. */
    private static final class Parser {
        private static final int STOPPED = 0;
        private static final int END = 1;
        private static final int WORD = 2;
        private static final int NUMBER = 3;
        private static final int SIGN = 4;

        final byte[] text;
        final int size;
        final Plan plan;
        int fault = 0;
        int place = NONE;
        int at = 0;
        int start = 0;
        int kind = END;
        /** A NUMBER's value, a SIGN's byte, a WORD's letters, five bits each. */
        int value = 0;
        /** Which OWN WORD a WORD is, or NONE. */
        int own = NONE;
        /** The words that may stand in the SUM that is read now. */
        int scope = NONE;

        Parser(byte[] text, int size) {
            this.text = text;
            this.size = Math.max(0, Math.min(size, text.length));
            plan = new Plan(this.size);
        }

        void parse() {
            next();
            for (int n = 0; n < STATEMENTS_MOST && kind != END && kind != STOPPED; n++) {
                readStatement();
            }
        }

        private void stop(int why, int where) {
            if (fault == 0) {
                fault = why;
                place = where;
            }
            kind = STOPPED;
        }

        // -- words, numbers, signs

        private void next() {
            if (kind == STOPPED) {
                return;
            }
            boolean needsBlank = kind == WORD || kind == NUMBER;
            int last = at;
            skipBlanks();
            start = at;
            if (at >= size) {
                kind = END;
            } else if (needsBlank && at == last && (isLetter(text[at]) || isDigit(text[at]))) {
                stop(1, at);
            } else if (isLetter(text[at])) {
                takeWord();
                own = findOwn();
            } else if (isDigit(text[at])) {
                takeNumber();
            } else {
                kind = SIGN;
                value = text[at] & 255;
                at++;
            }
        }

        private void skipBlanks() {
            while (at < size && (text[at] == 10 || text[at] == 32)) {
                at++;
            }
        }

        private static boolean isLetter(int sign) {
            return sign >= 'a' && sign <= 'z';
        }

        private static boolean isDigit(int sign) {
            return sign >= '0' && sign <= '9';
        }

        private void takeWord() {
            kind = WORD;
            value = 0;
            for (int k = 0; k < WORD_SIZE; k++) {
                boolean more = at < size && isLetter(text[at]);
                value = value << 5 | (more ? text[at] - 'a' + 1 : 0);
                at += more ? 1 : 0;
            }
            if (at < size && isLetter(text[at])) {
                stop(1, at);
            }
        }

        private int findOwn() {
            int letters = 0;
            for (int k = 0; k < OWN_WORDS.length(); k++) {
                int sign = OWN_WORDS.charAt(k);
                int ahead = k % WORD_SIZE == 0 ? 0 : letters << 5;
                letters = ahead | (sign == ' ' ? 0 : sign - 'a' + 1);
                if (k % WORD_SIZE == WORD_SIZE - 1 && letters == value) {
                    return k / WORD_SIZE;
                }
            }
            return NONE;
        }

        private void takeNumber() {
            kind = NUMBER;
            value = 0;
            for (int k = 0; k < 4 && at < size && isDigit(text[at]); k++) {
                value = 10 * value + text[at] - '0';
                at++;
            }
            if (at < size && isDigit(text[at])) {
                stop(1, at);
            }
        }

        private boolean isWord(int word) {
            return kind == WORD && own == word;
        }

        private boolean isSign(int sign) {
            return kind == SIGN && value == sign;
        }

        private void takeOwn(int word) {
            if (isWord(word)) {
                next();
            } else {
                stop(1, start);
            }
        }

        private void takeSign(int sign) {
            if (isSign(sign)) {
                next();
            } else {
                stop(1, start);
            }
        }

        // -- STATEMENTS

        private void readStatement() {
            int word = kind == WORD ? own : NONE;
            if (!beginsStatement(word)) {
                stop(1, start);
                return;
            }
            if (isFull(word)) {
                stop(6, start);
                return;
            }
            next();
            scope = word;
            plan.beginRule(word);
            switch (word) {
                case BOARD:
                    readThing(BOARDS, RIBS, 9);
                    break;
                case STAIN:
                    readThing(STAINS, DEEP, DEEP_MOST);
                    break;
                case HEARER:
                    readThing(HEARERS, SIN, 9);
                    break;
                case WATER:
                    plan.water = takeValue(0, WATER_MOST);
                    break;
                case DRY:
                    plan.dry = takeValue(0, 100);
                    break;
                case SAVED:
                case SLIDE:
                    readTest(0);
                    break;
                default:
                    readSum(0);
            }
            plan.endRule(word);
            endStatement();
        }

        /** Behind the last STATEMENT that may be, whatever comes is one too many. */
        private void endStatement() {
            plan.statements++;
            if (isSign(';') && plan.statements >= STATEMENTS_MOST) {
                skipBlanks();
                if (at < size) {
                    stop(6, at);
                    return;
                }
            }
            takeSign(';');
        }

        private static boolean beginsStatement(int word) {
            return word == BOARD || word == STAIN || word == HEARER || word >= OUT && word <= DRY;
        }

        private boolean isFull(int word) {
            switch (word) {
                case BOARD:
                    return plan.count[BOARDS] >= BOARDS_MOST;
                case STAIN:
                    return plan.count[STAINS] >= SORT_SIZE;
                case HEARER:
                    return plan.count[HEARERS] >= SORT_SIZE;
                case WATER:
                case DRY:
                    return false;
                default:
                    return plan.hasRule(word);
            }
        }

        /** The two words of a sort stand side by side among the OWN WORDS. */
        private void readThing(int sort, int word, int most) {
            int name = takeName();
            takeOwn(word);
            int one = takeValue(sort == BOARDS ? 1 : 0, most);
            takeOwn(word + 1);
            int other = takeValue(sort == BOARDS ? 1 : 0, sort == BOARDS ? 99 : 9);
            plan.addThing(sort, name, one, other);
        }

        private int takeName() {
            int name = value;
            if (kind != WORD || own != NONE) {
                stop(1, start);
            } else if (plan.bears(name)) {
                stop(2, start);
            } else {
                next();
            }
            return name;
        }

        private int takeValue(int least, int most) {
            int number = value;
            if (kind != NUMBER) {
                stop(1, start);
            } else if (number < least || number > most) {
                stop(4, start);
            } else {
                next();
            }
            return number;
        }

        // -- SUMS and TESTS: open tells how many ( [ not are open, which OPEN_MOST keeps low

        private void readSum(int open) {
            readProduct(open);
            for (int n = 0; n < size && (isSign('+') || isSign('-')); n++) {
                int step = isSign('+') ? DO_ADD : DO_LESS;
                next();
                readProduct(open);
                plan.addStep(step, 0);
            }
        }

        private void readProduct(int open) {
            readPart(open);
            for (int n = 0; n < size && (isSign('*') || isSign('/') || isSign('%')); n++) {
                int step = isSign('*') ? DO_TIMES : isSign('/') ? DO_SHARE : DO_REST;
                next();
                readPart(open);
                plan.addStep(step, 0);
            }
        }

        private void readPart(int open) {
            if (kind == NUMBER) {
                plan.addStep(PUT_NUMBER, value);
                next();
            } else if (kind == WORD && mayStand(own)) {
                plan.addStep(PUT_NAMED, own);
                next();
            } else if (isWord(MIN) || isWord(MAX)) {
                readLesserOrGreater(open);
            } else if (isWord(IF)) {
                readChoice(open);
            } else if (takeOpener(open, isSign('('))) {
                readSum(open + 1);
                takeSign(')');
            }
        }

        private boolean mayStand(int word) {
            switch (word) {
                case RIBS:
                case ZINC:
                case DEEP:
                case STUFF:
                case WATER:
                case WEEK:
                    return true;
                case RUB:
                case BONE:
                    return scope == OUT || scope == WEAR;
                case SIN:
                case EAR:
                case CAME:
                    return scope == SAVED || scope == SLIDE;
                default:
                    return false;
            }
        }

        private void readLesserOrGreater(int open) {
            int step = isWord(MIN) ? DO_MIN : DO_MAX;
            next();
            if (takeOpener(open, isSign('('))) {
                readSum(open + 1);
                takeSign(',');
                readSum(open + 1);
                takeSign(')');
                plan.addStep(step, 0);
            }
        }

        private void readChoice(int open) {
            next();
            if (takeOpener(open, isSign('('))) {
                readTest(open + 1);
                takeSign(',');
                readSum(open + 1);
                takeSign(',');
                readSum(open + 1);
                takeSign(')');
                plan.addStep(DO_CHOOSE, 0);
            }
        }

        /** Takes the ( [ not that is due; false when it isn't there or too many are open. */
        private boolean takeOpener(int open, boolean there) {
            if (!there) {
                stop(1, start);
                return false;
            }
            if (open >= OPEN_MOST) {
                stop(5, start);
                return false;
            }
            next();
            return true;
        }

        private void readTest(int open) {
            readBoth(open);
            for (int n = 0; n < size && isWord(OR); n++) {
                next();
                readBoth(open);
                plan.addStep(DO_OR, 0);
            }
        }

        private void readBoth(int open) {
            readFact(open);
            for (int n = 0; n < size && isWord(AND); n++) {
                next();
                readFact(open);
                plan.addStep(DO_AND, 0);
            }
        }

        private void readFact(int open) {
            if (isWord(NOT)) {
                if (takeOpener(open, true)) {
                    readFact(open + 1);
                    plan.addStep(DO_NOT, 0);
                }
            } else if (isSign('[')) {
                if (takeOpener(open, true)) {
                    readTest(open + 1);
                    takeSign(']');
                }
            } else if (isWord(ALL)) {
                plan.addStep(PUT_NUMBER, 1);
                next();
            } else {
                readComparison(open);
            }
        }

        private void readComparison(int open) {
            readSum(open);
            if (!isSign('<') && !isSign('>') && !isSign('=')) {
                stop(1, start);
                return;
            }
            int step = isSign('<') ? IS_BELOW : isSign('>') ? IS_ABOVE : IS_LIKE;
            next();
            readSum(open);
            plan.addStep(step, 0);
        }
    }

    /** What changes from WEEK to WEEK and by ACTS. */
    private static final class State {
        static final int ROW_SIZE = 4 + BOARDS_MOST + STAINS_MOST;

        int week = 0;
        int water = 0;
        /** Bit h: HEARER h is saved. */
        int savedBits = 0;
        /** How many SERMONS are KEPT, told or not. */
        int sermons = 0;
        final int[] zinc = new int[BOARDS_MOST];
        final int[] deep = new int[STAINS_MOST];

        void begin(Plan plan) {
            week = 0;
            water = plan.water;
            savedBits = 0;
            sermons = 0;
            for (int board = 0; board < BOARDS_MOST; board++) {
                zinc[board] = plan.zincTold(board);
            }
            for (int stain = 0; stain < STAINS_MOST; stain++) {
                deep[stain] = plan.deepTold(stain);
            }
        }

        void take(State other) {
            week = other.week;
            water = other.water;
            savedBits = other.savedBits;
            sermons = other.sermons;
            System.arraycopy(other.zinc, 0, zinc, 0, BOARDS_MOST);
            System.arraycopy(other.deep, 0, deep, 0, STAINS_MOST);
        }

        /** Places without a STAIN are 0 deep. */
        int stainsLeft() {
            int left = 0;
            for (int stain = 0; stain < STAINS_MOST; stain++) {
                left += deep[stain] > 0 ? 1 : 0;
            }
            return left;
        }
    }

    /** How all was ahead of the last ACTS, in a ring. */
    private static final class Acts {
        final int[] rows = new int[ACTS_UNDONE * State.ROW_SIZE];
        int count = 0;
        int next = 0;

        void forget() {
            count = 0;
        }

        void remember(State state) {
            int at = next * State.ROW_SIZE;
            rows[at] = state.week;
            rows[at + 1] = state.water;
            rows[at + 2] = state.savedBits;
            rows[at + 3] = state.sermons;
            System.arraycopy(state.zinc, 0, rows, at + 4, BOARDS_MOST);
            System.arraycopy(state.deep, 0, rows, at + 4 + BOARDS_MOST, STAINS_MOST);
            next = (next + 1) % ACTS_UNDONE;
            count = Math.min(ACTS_UNDONE, count + 1);
        }

        boolean back(State state) {
            if (count == 0) {
                return false;
            }
            count--;
            next = (next + ACTS_UNDONE - 1) % ACTS_UNDONE;
            int at = next * State.ROW_SIZE;
            state.week = rows[at];
            state.water = rows[at + 1];
            state.savedBits = rows[at + 2];
            state.sermons = rows[at + 3];
            System.arraycopy(rows, at + 4, state.zinc, 0, BOARDS_MOST);
            System.arraycopy(rows, at + 4 + BOARDS_MOST, state.deep, 0, STAINS_MOST);
            return true;
        }
    }

    /** The SERMONS that are KEPT, in a ring. */
    private static final class Kept {
        /** Those told, and as many as all ACTS that can be undone may have put behind them. */
        static final int ROWS = KEPT_TOLD + ACTS_UNDONE * AHEAD_MOST;

        final int[] rows = new int[ROWS];

        void put(int number, int week, Preacher preacher) {
            if (number >= 0) {
                rows[number % ROWS] = week << 16 | preacher.board << 12 | preacher.stain << 8 | preacher.came;
            }
        }

        int tell(int number, int what) {
            if (number < 0) {
                return NONE;
            }
            int kept = rows[number % ROWS];
            switch (what) {
                case 0:
                    return kept >> 16;
                case 1:
                    return kept >> 12 & 15;
                case 2:
                    return kept >> 8 & 15;
                default:
                    return kept & 255;
            }
        }
    }

    /** Does strokes, SERMONS and WEEKS by the SUMS and TESTS of a Plan. */
    private static final class Preacher {
        Plan plan;
        /** The values of the words that stand in SUMS, by their numbers as OWN WORDS. */
        final int[] named = new int[CAME + 1];
        final int[] stack = new int[STACK_SIZE];
        /** The BOARD and the STAIN of the SERMON; NONE when a WEEK has none. */
        int board = NONE;
        int stain = NONE;
        int zinc = 0;
        int deep = 0;
        int rubs = 0;
        int came = 0;

        Preacher(Plan plan) {
            this.plan = plan;
        }

        /** A BOARD and a STAIN are laid out as they are; no stroke is done yet. */
        void lay(State state, int onBoard, int ofStain) {
            board = onBoard;
            stain = ofStain;
            zinc = state.zinc[onBoard];
            deep = state.deep[ofStain];
            rubs = 0;
            came = 0;
            named[RIBS] = plan.ribs(onBoard);
            named[STUFF] = plan.stuff(ofStain);
            named[WATER] = state.water;
            named[WEEK] = state.week;
        }

        /** At most n strokes more, on what was laid out. */
        void rub(int n) {
            for (int k = 0; k < n && deep > 0; k++) {
                rubs++;
                named[ZINC] = zinc;
                named[DEEP] = deep;
                named[RUB] = rubs;
                named[BONE] = zinc == 0 ? 1 : 0;
                int out = Math.min(deep, Math.max(0, valueOf(OUT, 1)));
                int wear = Math.min(WEAR_MOST, Math.max(0, valueOf(WEAR, 1)));
                deep -= out;
                came += out;
                zinc = Math.max(0, zinc - wear);
            }
        }

        /** Does what is NEEDED, leaving the strokes in rubs; false when they are not enough. */
        boolean bringOut(State state, int onBoard, int ofStain) {
            lay(state, onBoard, ofStain);
            rub(NEEDED_MOST);
            return deep == 0;
        }

        void preach(State state, int onBoard, int ofStain, int n) {
            lay(state, onBoard, ofStain);
            rub(n);
            state.zinc[onBoard] = zinc;
            state.deep[ofStain] = deep;
            named[ZINC] = zinc;
            named[DEEP] = deep;
            named[CAME] = came;
            state.savedBits |= whoHolds(SAVED, ~state.savedBits);
        }

        void passWeek(State state, boolean drought) {
            int savedAhead = state.savedBits;
            int deepest = drought ? NONE : deepestOf(state);
            if (deepest != NONE && plan.count[BOARDS] > 0) {
                int picked = pickFor(state, deepest);
                preach(state, picked, deepest, plan.ribs(picked));
            } else {
                restWithoutSermon(state);
            }
            state.savedBits &= ~whoHolds(SLIDE, savedAhead);
            state.week = Math.min(WEEK_MOST, state.week + 1);
        }

        private void restWithoutSermon(State state) {
            board = NONE;
            stain = NONE;
            came = 0;
            named[RIBS] = 0;
            named[ZINC] = 0;
            named[DEEP] = 0;
            named[STUFF] = 0;
            named[CAME] = 0;
            named[WATER] = state.water;
            named[WEEK] = state.week;
        }

        private int deepestOf(State state) {
            int deepest = NONE;
            int most = 0;
            for (int k = 0; k < plan.count[STAINS]; k++) {
                if (state.deep[k] > most) {
                    deepest = k;
                    most = state.deep[k];
                }
            }
            return deepest;
        }

        private int pickFor(State state, int ofStain) {
            int picked = 0;
            int most = 0;
            for (int k = 0; k < plan.count[BOARDS]; k++) {
                lay(state, k, ofStain);
                named[ZINC] = zinc;
                named[DEEP] = deep;
                int sum = valueOf(PICKS, 0);
                if (k == 0 || sum > most) {
                    picked = k;
                    most = sum;
                }
            }
            return picked;
        }

        /** Those of the HEARERS (as bits) for whom a TEST holds. */
        private int whoHolds(int test, int hearers) {
            int holds = 0;
            for (int k = 0; k < plan.count[HEARERS]; k++) {
                if ((hearers >> k & 1) == 1) {
                    named[SIN] = plan.sin(k);
                    named[EAR] = plan.ear(k);
                    holds |= valueOf(test, 0) != 0 ? 1 << k : 0;
                }
            }
            return holds;
        }

        /** The value of a SUM, or of a TEST (1 or 0); what is given here, if it isn't told. */
        private int valueOf(int rule, int without) {
            int from = plan.from[rule - OUT];
            int upTo = Math.min(plan.upTo[rule - OUT], plan.stepCount);
            int size = 0;
            for (int at = from; at < upTo; at++) {
                int kind = plan.steps[at] >> STEP_BITS;
                int needs = kind <= PUT_NAMED ? 0 : kind == DO_NOT ? 1 : kind == DO_CHOOSE ? 3 : 2;
                if (size < needs || size - needs >= STACK_SIZE) {
                    return without;
                }
                size -= needs;
                if (needs == 0) {
                    stack[size] = put(kind, plan.steps[at] & (1 << STEP_BITS) - 1);
                } else if (kind <= DO_REST) {
                    stack[size] = reckon(kind, stack[size], stack[Math.min(size + 1, STACK_SIZE - 1)]);
                } else {
                    stack[size] = weigh(kind, size);
                }
                size++;
            }
            return size > 0 ? stack[0] : without;
        }

        private int put(int kind, int number) {
            return kind == PUT_NUMBER || number >= named.length ? number : named[number];
        }

        /** What a step that compares or joins makes of the values from a place of the stack on. */
        private int weigh(int kind, int at) {
            int a = stack[at];
            int b = stack[Math.min(at + 1, STACK_SIZE - 1)];
            switch (kind) {
                case DO_MIN:
                    return Math.min(a, b);
                case DO_MAX:
                    return Math.max(a, b);
                case IS_BELOW:
                    return a < b ? 1 : 0;
                case IS_ABOVE:
                    return a > b ? 1 : 0;
                case IS_LIKE:
                    return a == b ? 1 : 0;
                case DO_OR:
                    return a | b;
                case DO_AND:
                    return a & b;
                case DO_NOT:
                    return 1 - a;
                default:
                    return a != 0 ? b : stack[Math.min(at + 2, STACK_SIZE - 1)];
            }
        }

        private static int reckon(int kind, long a, long b) {
            long result = 0;
            if (kind == DO_ADD) {
                result = a + b;
            } else if (kind == DO_LESS) {
                result = a - b;
            } else if (kind == DO_TIMES) {
                result = a * b;
            } else if (b != 0) {
                result = kind == DO_SHARE ? Math.floorDiv(a, b) : Math.floorMod(a, b);
            }
            if (result > RESULT_MOST) {
                return RESULT_MOST;
            }
            return result < -RESULT_MOST ? -RESULT_MOST : (int) result;
        }
    }

    /** Finds the MATCH. */
    private static final class MatchFinder {
        boolean fresh = false;
        /** The strokes together; NONE without a MATCH. */
        int fewest = NONE;
        /** The BOARD of each STAIN. */
        final int[] best = new int[STAINS_MOST];
        final int[] tried = new int[STAINS_MOST];
        /** The NEEDED that are SAFE, NONE where they aren't. */
        final int[] safe = new int[STAINS_MOST * BOARDS_MOST];
        final Preacher preacher;
        final State state;

        MatchFinder(Preacher preacher, State state) {
            this.preacher = preacher;
            this.state = state;
        }

        void solve() {
            for (int stain = 0; stain < preacher.plan.count[STAINS]; stain++) {
                for (int board = 0; board < preacher.plan.count[BOARDS]; board++) {
                    boolean good = preacher.bringOut(state, board, stain) && preacher.zinc > 0;
                    safe[stain * BOARDS_MOST + board] = good ? preacher.rubs : NONE;
                }
            }
            fewest = NONE;
            seat(0, 0, 0);
            fresh = true;
        }

        /** Rows are tried in their order, so only fewer strokes are better. */
        private void seat(int stain, int taken, int sum) {
            if (fewest != NONE && sum >= fewest) {
                return;
            }
            if (stain >= preacher.plan.count[STAINS] || stain >= STAINS_MOST) {
                fewest = sum;
                System.arraycopy(tried, 0, best, 0, STAINS_MOST);
                return;
            }
            if (state.deep[stain] == 0) {
                tried[stain] = NONE;
                seat(stain + 1, taken, sum);
                return;
            }
            for (int board = 0; board < preacher.plan.count[BOARDS]; board++) {
                int strokes = safe[stain * BOARDS_MOST + board];
                if ((taken >> board & 1) == 0 && strokes != NONE) {
                    tried[stain] = board;
                    seat(stain + 1, taken | 1 << board, sum + strokes);
                }
            }
        }
    }

    /** Finds the HEADS of a BOARD. */
    private static final class HeadFinder {
        private static final int ZINC_SPAN = 100;
        private static final int UNKNOWN = -1;
        private static final int UNSAFE = 0;

        /** The BOARD of which this tells; NONE when it must be found anew. */
        int board = NONE;
        int most = 0;
        int fewest = 0;
        final int[] best = new int[STAINS_MOST];
        final int[] tried = new int[STAINS_MOST];
        /** By STAIN and zinc: strokes * ZINC_SPAN + the zinc that is left, or UNKNOWN, or UNSAFE. */
        final int[] known = new int[STAINS_MOST * ZINC_SPAN];
        final Preacher preacher;
        final State state;

        HeadFinder(Preacher preacher, State state) {
            this.preacher = preacher;
            this.state = state;
        }

        void solve(int onBoard) {
            board = onBoard;
            most = 0;
            fewest = 0;
            for (int k = 0; k < known.length; k++) {
                known[k] = UNKNOWN;
            }
            goOn(0, 0, state.zinc[onBoard], 0);
        }

        /** Rows of one length are tried in their order, so only fewer strokes are better. */
        private void goOn(int count, int taken, int zinc, int sum) {
            if (count > most || count == most && sum < fewest) {
                most = count;
                fewest = sum;
                System.arraycopy(tried, 0, best, 0, STAINS_MOST);
            }
            for (int stain = 0; stain < STAINS_MOST && count < STAINS_MOST; stain++) {
                if ((taken >> stain & 1) == 0 && state.deep[stain] > 0) {
                    int found = look(stain, zinc);
                    if (found > UNSAFE) {
                        tried[count] = stain;
                        goOn(count + 1, taken | 1 << stain, found % ZINC_SPAN, sum + found / ZINC_SPAN);
                    }
                }
            }
        }

        private int look(int stain, int zinc) {
            if (zinc <= 0 || zinc >= ZINC_SPAN) {
                return UNSAFE;
            }
            int at = stain * ZINC_SPAN + zinc;
            if (known[at] == UNKNOWN) {
                preacher.lay(state, board, stain);
                preacher.zinc = zinc;
                preacher.rub(NEEDED_MOST);
                boolean safe = preacher.deep == 0 && preacher.zinc > 0;
                known[at] = safe ? preacher.rubs * ZINC_SPAN + preacher.zinc : UNSAFE;
            }
            return known[at];
        }
    }

    /** What is SEEN, and the strokes that are TELLING. */
    private static final class Seen {
        static final int ROWS_MOST = 16;

        int rows = 0;
        final int[] told = new int[3 * ROWS_MOST];
        int telling = NONE;
        int leftAtMost = NONE;
        /** By STAIN and strokes: how much is left. */
        final int[] left = new int[STAINS_MOST * (SERMON_MOST + 1)];
        final Preacher preacher;
        final State state;

        Seen(Preacher preacher, State state) {
            this.preacher = preacher;
            this.state = state;
        }

        boolean read(byte[] tape, int size, int boards) {
            if (size < 3 || size > told.length || size > tape.length || size % 3 != 0) {
                return false;
            }
            for (int at = 0; at < size; at += 3) {
                int strokes = tape[at + 1] & 255;
                boolean good = (tape[at] & 255) < boards && strokes >= 1 && strokes <= SERMON_MOST
                        && (tape[at + 2] & 255) <= DEEP_MOST;
                if (!good) {
                    return false;
                }
            }
            for (int at = 0; at < size; at++) {
                told[at] = tape[at] & 255;
            }
            rows = size / 3;
            return true;
        }

        int stains() {
            int stains = 0;
            for (int stain = 0; stain < preacher.plan.count[STAINS]; stain++) {
                stains |= isSo(stain) ? 1 << stain : 0;
            }
            return stains;
        }

        private boolean isSo(int stain) {
            for (int at = 0; at < 3 * rows; at += 3) {
                preacher.lay(state, told[at], stain);
                preacher.rub(told[at + 1]);
                if (preacher.deep != told[at + 2]) {
                    return false;
                }
            }
            return true;
        }

        void tell(int board, int stains) {
            for (int stain = 0; stain < STAINS_MOST; stain++) {
                if ((stains >> stain & 1) == 1) {
                    preacher.lay(state, board, stain);
                    for (int n = 1; n <= SERMON_MOST; n++) {
                        preacher.rub(1);
                        left[stain * (SERMON_MOST + 1) + n] = preacher.deep;
                    }
                }
            }
            leftAtMost = STAINS_MOST + 1;
            for (int n = 1; n <= SERMON_MOST; n++) {
                int alike = mostAlike(n, stains);
                if (alike < leftAtMost) {
                    leftAtMost = alike;
                    telling = n;
                }
            }
        }

        /** The most of these STAINS of which, behind n strokes, as much is left. */
        private int mostAlike(int n, int stains) {
            int most = 0;
            for (int stain = 0; stain < STAINS_MOST; stain++) {
                int alike = 0;
                for (int other = 0; other < STAINS_MOST; other++) {
                    boolean both = (stains >> stain & 1) == 1 && (stains >> other & 1) == 1;
                    int step = SERMON_MOST + 1;
                    alike += both && left[stain * step + n] == left[other * step + n] ? 1 : 0;
                }
                most = Math.max(most, alike);
            }
            return most;
        }
    }
}
