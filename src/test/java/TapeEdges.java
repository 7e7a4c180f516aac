/** The boundary cases of promises 1 to 5: a new object, the tape, chapel(), fault(). */
final class TapeEdges {
    private static final int MAX = Integer.MAX_VALUE;
    private static final int MIN = Integer.MIN_VALUE;
    private static final String TEXT = "board a ribs 2 zinc 9;board b ribs 1 zinc 5;stain s deep 9 stuff 1;stain t deep 4 stuff 2;"
            + "hearer h sin 0 ear 0;out 2;wear 2;saved all;slide came=0;picks ribs;water 7;dry 100;";

    private TapeEdges() {
    }

    static void run() {
        newObject();
        twentyBytes();
        behindThoseThere();
        tooManyBytes();
        aFullTape();
        firstBytesAlone();
        notSoMany();
        howManyStatements();
        theTapeGoes();
        withAFault();
        asAtFirst();
        nothingKeptOrSeen();
        theSeedStays();
        faults();
        otherFaults();
    }

    /** How many bytes are on the tape: so many can be kept, one more can't. */
    private static void tapeHas(ZincSermon x, int n) {
        Check.due("more than " + n + " on the tape", x.end(n + 1), false);
        Check.due(n + " on the tape", x.end(n), true);
    }

    private static void newObject() {
        Check.promise(1, "No BOARDS, nothing; the seed is 1.");
        ZincSermon x = new ZincSermon();
        for (int what = 0; what <= 10; what++) {
            Check.due("has(" + what + ")", x.has(what), 0);
        }
        Check.due("has(11)", x.has(11), 1);
        Check.unrefused(x);
        int[] none = {x.letter(0, 0, 0), x.board(0, 0), x.stain(0, 0), x.hearer(0, 0), x.strokes(0, 0, 0), x.needed(0, 0, 0), x.best(0),
            x.heads(0, 0), x.later(0, 0), x.worn(0, 0), x.tells(0, 0), x.kept(0, 0), x.octet(0), x.fault(1)};
        for (int k = 0; k < none.length; k++) {
            Check.due("none such, " + k, none[k], -1);
        }
        int[] nothing = {x.match(-1), x.saved(0), x.saved(40), x.clean(), x.which(), x.fault(0)};
        for (int k = 0; k < nothing.length; k++) {
            Check.due("nothing, " + k, nothing[k], 0);
        }
        Check.due("image()", x.image(), 4);
        tapeHas(x, 0);
        Check.due("chapel() of nothing", x.chapel(), 0);
        Check.due("undo()", x.undo(), false);
        Check.no("mend(0)", new ZincSermon(), 3, y -> y.mend(0));
        Check.none("soil(0, 1)", new ZincSermon(), 3, y -> y.soil(0, 1));
        Check.none("sermon(0, 0, 1)", new ZincSermon(), 3, y -> y.sermon(0, 0, 1));
        Check.none("see()", new ZincSermon(), 5, y -> y.see());
        Check.no("pour(0)", new ZincSermon(), 3, y -> y.pour(0));
    }

    /** Each of the twenty bytes in turn is one that can't be: the FAULT is where it stands. */
    private static void twentyBytes() {
        Check.promise(2, "Twenty bytes come behind those on the tape, of each number the highest first: how many there are;");
        for (int place = 0; place < 20; place++) {
            int[] numbers = {0x20202020, 0x20202020, 0x20202020, 0x20202020, 0x20202020};
            int shift = 24 - 8 * (place % 4);
            numbers[place / 4] = numbers[place / 4] & ~(255 << shift) | 255 << shift;
            ZincSermon x = new ZincSermon();
            Check.due("feed()", x.feed(numbers[0], numbers[1], numbers[2], numbers[3], numbers[4]), 20);
            Check.due("chapel()", x.chapel(), -1);
            Check.due("the place of byte " + place, x.fault(1), place);
        }
        ZincSermon x = new ZincSermon();
        Check.due("feed() of \"water 77;dry 12;\"", x.feed(0x77617465, 0x72203737, 0x3b647279, 0x2031323b, 0x0a0a0a0a), 20);
        Check.due("chapel()", x.chapel(), 2);
        Check.due("water", x.has(4), 77);
    }

    private static void behindThoseThere() {
        Check.promise(2, "come behind those on the tape,");
        ZincSermon x = new ZincSermon();
        for (int n = 1; n <= 3; n++) {
            Check.due("feed " + n, x.feed(0, 0, 0, 0, 0), 20 * n);
        }
        x = new ZincSermon();
        x.feed(0x77617465, 0x72203737, 0x3b647279, 0x2031323b, 0x0a0a0a0a);
        x.end(7);
        Check.due("feed behind 7", x.feed(0x393b2020, 0x20202020, 0x20202020, 0x20202020, 0x20202020), 27);
        Check.due("chapel() of \"water 79;\"", x.chapel(), 1);
        Check.due("water", x.has(4), 79);
    }

    private static void tooManyBytes() {
        Check.promise(2, "NONE, refused (0), if there would be more than 1600.");
        int[] kept = {1600, 1599, 1581};
        for (int n : kept) {
            ZincSermon x = full();
            x.end(n);
            Check.none("feed behind " + n, x, 0, y -> y.feed(1, 2, 3, 4, 5));
            tapeHas(x, n);
        }
        ZincSermon x = full();
        x.end(1580);
        Check.due("feed behind 1580", x.feed(0, 0, 0, 0, 0), 1600);
        Check.unrefused(x);
        tapeHas(x, 1600);
    }

    private static ZincSermon full() {
        ZincSermon x = new ZincSermon();
        for (int n = 1; n <= 80; n++) {
            Check.due("feed " + n, x.feed(0x20202020, 0x20202020, 0x20202020, 0x20202020, 0x20202020), 20 * n);
        }
        return x;
    }

    private static void aFullTape() {
        Check.promise(2, "more than 1600.");
        String blanks = Check.times(" ", 1592);
        Check.good("water 5" + blanks + ";", 1);
        Check.good(blanks + "water 5;", 1);
        Check.bad(blanks + "water 5 ", 1, 1600);
        Check.bad(blanks + "water 5$", 1, 1599);
        // What is refused leaves the bytes as they were.
        ZincSermon x = new ZincSermon();
        Check.tape(x, "water 5" + blanks + ";");
        Check.due("feed", x.feed(0, 0, 0, 0, 0), -1);
        Check.due("chapel()", x.chapel(), 1);
    }

    private static void firstBytesAlone() {
        Check.promise(3, "The tape has its first n bytes alone: true;");
        int[] some = {60, 59, 41, 40, 21, 20, 1, 0};
        ZincSermon x = new ZincSermon();
        x.feed(0, 0, 0, 0, 0);
        x.feed(0, 0, 0, 0, 0);
        x.feed(0, 0, 0, 0, 0);
        for (int n : some) {
            Check.due("end(" + n + ")", x.end(n), true);
            tapeHas(x, n);
        }
        Check.due("end(0) of nothing", new ZincSermon().end(0), true);
        // Those behind are not read: a sign, a digit, a letter, a blank.
        behind("water 12;", 7, 1, 7);
        behind("water 10;", 7, 1, 7);
        behind("water 100;", 9, 4, 6);
        behind("water 12345;", 10, 4, 6);
        behind("watery 1;", 5, 1, 5);
        behind("board abcdefg", 12, 1, 12);
        behind("abcdefg", 6, 1, 0);
        behind("board hearers", 12, 1, 6);
        behind("stain abcdef deep 1 stuff 1;board abcdefg", 40, 2, 34);
        behind("water  ;", 6, 1, 6);
        behind("water 1;$", 9, 1, 8);
        x = new ZincSermon();
        Check.tape(x, "water 1;$");
        x.end(8);
        Check.due("chapel() ahead of a byte that can't be", x.chapel(), 1);
    }

    private static void behind(String text, int n, int fault, int place) {
        ZincSermon x = new ZincSermon();
        Check.tape(x, text);
        x.end(n);
        Check.due("chapel() of " + n + " of " + text, x.chapel(), -1);
        Check.due("fault(0) of " + n + " of " + text, x.fault(0), fault);
        Check.due("fault(1) of " + n + " of " + text, x.fault(1), place);
    }

    private static void notSoMany() {
        Check.promise(3, "false, refused (0), if it has not so many, or n is below 0.");
        int[] wrong = {21, 22, 1600, 1601, MAX, -1, -20, MIN};
        for (int n : wrong) {
            ZincSermon x = new ZincSermon();
            x.feed(0, 0, 0, 0, 0);
            Check.no("end(" + n + ")", x, 0, y -> y.end(n));
            tapeHas(x, 20);
        }
        Check.no("end(1) of nothing", new ZincSermon(), 0, y -> y.end(1));
        Check.no("end(1601) of a full tape", full(), 0, y -> y.end(1601));
        ZincSermon x = new ZincSermon();
        x.feed(0, 0, 0, 0, 0);
        x.end(5);
        Check.no("end(6) behind end(5)", x, 0, y -> y.end(6));
    }

    private static void howManyStatements() {
        Check.promise(4, "is THE CHAPEL: how many STATEMENTS (0 without);");
        Check.good("", 0);
        Check.good(" \n \n", 0);
        Check.good("dry 1;", 1);
        Check.good(TEXT, 12);
        Check.good(Check.times("water 1;", 80), 80);
    }

    private static void theTapeGoes() {
        Check.promise(4, "The tape (it goes)");
        ZincSermon x = new ZincSermon();
        Check.tape(x, "water 9;");
        Check.due("chapel()", x.chapel(), 1);
        tapeHas(x, 0);
        Check.due("chapel() of nothing then", x.chapel(), 0);
        Check.due("water", x.has(4), 0);
        Check.tape(x, "water 9;foo");
        Check.due("chapel() with a FAULT", x.chapel(), -1);
        tapeHas(x, 0);
        Check.due("feed()", x.feed(0, 0, 0, 0, 0), 20);
    }

    /** Something of all that can change has changed. */
    private static ZincSermon used() {
        ZincSermon x = Check.chapel(TEXT);
        x.seed(77);
        x.weeks(1);
        x.sermon(1, 1, 1);
        x.pour(8);
        Check.see(x, 0, 1, 0);
        return x;
    }

    private static void withAFault() {
        Check.promise(4, "NONE, refused (1), with a FAULT (all stays).");
        String[] texts = {"foo", "water 9;stain a deep 1 stuff 1;foo", "out", "water 100;", "board a ribs 1 zinc 1;board a", "out ((((((((",
            "out 1;out", Check.times("dry 1;", 81)};
        for (String text : texts) {
            ZincSermon x = used();
            int strokes = x.strokes(0, 0, 1);
            int match = x.match(-1);
            int heads = x.heads(0, 1);
            Check.tape(x, text);
            Check.none("chapel() of " + text, x, 1, y -> y.chapel());
            Check.due("strokes stay", x.strokes(0, 0, 1), strokes);
            Check.due("match stays", x.match(-1), match);
            Check.due("heads stay", x.heads(0, 1), heads);
            Check.due("letter stays", x.letter(1, 0, 0), 19);
            Check.due("ACTS can be undone", x.undo(), true);
            Check.due("water", x.has(4), 7);
            Check.due("dry stays", x.chance(3), 3);
            Check.due("slide stays", x.has(7), 0);
        }
    }

    private static void asAtFirst() {
        Check.promise(4, "Without one all is as at first,");
        ZincSermon x = used();
        x.match(-1);
        x.heads(0, 0);
        Check.tape(x, TEXT);
        Check.due("chapel()", x.chapel(), 12);
        int[] wants = {2, 2, 1, 0, 7, 2, 0, 0, 0, 0, 0};
        for (int what = 0; what < wants.length; what++) {
            Check.due("has(" + what + ")", x.has(what), wants[what]);
        }
        Check.due("zinc of a", x.board(0, 1), 9);
        Check.due("zinc of b", x.board(1, 1), 5);
        Check.due("deep of s", x.stain(0, 0), 9);
        Check.due("deep of t", x.stain(1, 0), 4);
        Check.due("hearer(0, 2)", x.hearer(0, 2), 0);
        ZincSermon y = Check.chapel(TEXT);
        Check.due("match(NONE)", x.match(-1), y.match(-1));
        Check.due("heads(0, 1)", x.heads(0, 1), y.heads(0, 1));
        // Of the CHAPEL that was nothing is left: out 1, wear 1, nobody is saved, the first BOARD, water 0, no DROUGHT.
        String other = "board c ribs 2 zinc 8;board d ribs 9 zinc 9;stain u deep 9 stuff 3;hearer h sin 0 ear 0;";
        Check.tape(x, other);
        Check.due("chapel() of another one", x.chapel(), 4);
        Check.due("letter", x.letter(0, 0, 0), 3);
        Check.due("water", x.has(4), 0);
        Check.due("DROUGHTS", x.chance(1), 0);
        Check.due("came", x.kept(0, 3), 2);
        Check.due("BOARD", x.kept(0, 1), 0);
        Check.due("zinc", x.board(0, 1), 6);
        Check.due("saved", x.has(7), 0);
        Check.due("on()", Check.on(x, Check.sealed(0, 0, 0, 8, 9, 0, 1)), true);
        x.weeks(1);
        Check.due("nobody slides", x.has(7), 1);
        x.end(0);
        Check.due("chapel() of nothing", x.chapel(), 0);
        for (int what = 0; what <= 10; what++) {
            Check.due("has(" + what + ") of nothing", x.has(what), 0);
        }
        Check.due("board(0, 0) of nothing", x.board(0, 0), -1);
        Check.due("which() of nothing", x.which(), 0);
    }

    private static void nothingKeptOrSeen() {
        Check.promise(4, "nothing is KEPT or SEEN, no ACT can be undone;");
        ZincSermon x = used();
        Check.due("KEPT ahead", x.has(8), 2);
        Check.due("SEEN ahead", x.has(9), 1);
        Check.due("ACTS ahead", x.has(10), 3);
        Check.due("which() ahead", x.which(), 2);
        Check.tape(x, TEXT);
        x.chapel();
        Check.due("KEPT", x.has(8), 0);
        Check.due("kept(0, 0)", x.kept(0, 0), -1);
        Check.due("SEEN", x.has(9), 0);
        Check.due("which()", x.which(), 3);
        Check.due("ACTS", x.has(10), 0);
        Check.no("undo()", x, 4, y -> y.undo());
        x.weeks(1);
        Check.due("KEPT anew", x.has(8), 1);
        Check.due("kept(0, 0) anew", x.kept(0, 0), 0);
        Check.due("one ACT", x.has(10), 1);
        Check.due("undo()", x.undo(), true);
        Check.due("and no more", x.undo(), false);
    }

    private static void theSeedStays() {
        Check.promise(4, "the seed stays.");
        ZincSermon x = used();
        Check.tape(x, TEXT);
        x.chapel();
        Check.due("the seed", x.has(11), 77);
        x.chance(1);
        int drawn = x.has(11);
        x.chapel();
        Check.due("the seed behind a DRAW", x.has(11), drawn);
        Check.tape(x, "foo");
        x.chapel();
        Check.due("the seed behind a FAULT", x.has(11), drawn);
    }

    private static void faults() {
        Check.promise(5, "Of the latest chapel(): its FAULT (what 0; 0 without, and ahead of any), its place (1; NONE without).");
        ZincSermon x = new ZincSermon();
        String[] texts = {"", "foo", "water 1;", "board a ribs 0", "out 1;", " out 1;out 1", "saved [[[[[[[[", "board a ribs 1 zinc 1;stain a", " ", "dry 1"};
        int[] faults = {0, 1, 0, 4, 0, 6, 5, 2, 0, 1};
        int[] places = {-1, 0, -1, 13, -1, 7, 13, 28, -1, 5};
        Check.due("fault(0) ahead of any", x.fault(0), 0);
        Check.due("fault(1) ahead of any", x.fault(1), -1);
        for (int k = 0; k < texts.length; k++) {
            Check.tape(x, texts[k]);
            x.chapel();
            Check.due("fault(0) of " + texts[k], x.fault(0), faults[k]);
            Check.due("fault(1) of " + texts[k], x.fault(1), places[k]);
        }
        // Other calls that are refused are no chapel().
        x.see();
        x.on();
        x.end(99);
        x.weeks(0);
        Check.due("fault(0) stays", x.fault(0), 1);
        Check.due("fault(1) stays", x.fault(1), 5);
    }

    private static void otherFaults() {
        Check.promise(5, "NONE for another what.");
        ZincSermon x = new ZincSermon();
        Check.tape(x, "foo");
        x.chapel();
        int[] others = {2, 3, -1, -2, MAX, MIN};
        for (int what : others) {
            Check.due("fault(" + what + ")", x.fault(what), -1);
            Check.due("fault(" + what + ") ahead of any", new ZincSermon().fault(what), -1);
        }
        Check.due("status(1)", x.status(1), 1);
    }
}
