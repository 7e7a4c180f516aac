/** The boundary cases of promises 20 to 22 and of Terms III: SEEN, which it was, TELLING. */
final class SeenEdges {
    private static final int MAX = Integer.MAX_VALUE;
    private static final int MIN = Integer.MIN_VALUE;
    /** On a: s 10 8 6 4 2 0, t 10 9 8 7 6 5, u 7 5 3 1 0, n 0; on b: s 10 7 4 1 0, t 10 8 6 4, u 7 4 1 0, n 0. */
    private static final String TEXT = "board a ribs 2 zinc 9;board b ribs 3 zinc 50;"
            + "stain s deep 10 stuff 0;stain t deep 10 stuff 1;stain u deep 7 stuff 0;stain n deep 0 stuff 0;out ribs-stuff;";

    private SeenEdges() {
    }

    static void run() {
        rowsTerm();
        rowsEdges();
        byWhichAllIsSo();
        howManyRows();
        refused();
        tapeGoes();
        latestSeen();
        allWithout();
        telling();
        tellingOfLikeOnes();
        tellsPromise();
        tellsOfNone();
    }

    private static void rowsTerm() {
        Check.terms("SEEN are rows of a BOARD, strokes (1 .. 40), how much is left (0 .. 99) of a STAIN behind so many strokes on it, as they are now:");
        which(TEXT, 1, 0, 2, 6);
        which(TEXT, 2, 0, 2, 8);
        which(TEXT, 4, 0, 1, 5);
        which(TEXT, 8, 0, 1, 0);
        which(TEXT, 1 + 4 + 8, 1, 4, 0);
        which(TEXT, 1, 1, 4, 0, 0, 5, 0, 0, 4, 2);
        // As they are now: t is 8 deep behind two strokes on a.
        ZincSermon x = Check.chapel(TEXT);
        Check.see(x, 0, 2, 6);
        x.sermon(0, 1, 2);
        Check.due("which() behind a SERMON", x.which(), 1 | 2);
        x.soil(0, 1);
        Check.due("which() behind soil", x.which(), 2);
        x.undo();
        x.undo();
        Check.due("which() behind undo()", x.which(), 1);
    }

    /** A new object with this CHAPEL, and by these rows the STAINS. */
    private static void which(String text, int want, int... rows) {
        ZincSermon x = Check.chapel(text);
        Check.due("see() of " + java.util.Arrays.toString(rows), Check.see(x, rows), rows.length / 3);
        Check.due("which() by " + java.util.Arrays.toString(rows), x.which(), want);
    }

    private static void rowsEdges() {
        Check.terms("strokes (1 .. 40), how much is left (0 .. 99)");
        String text = "board a ribs 1 zinc 9;stain s deep 99 stuff 0;stain t deep 40 stuff 0;stain u deep 99 stuff 1;out 1-stuff;";
        which(text, 1, 0, 1, 98);
        which(text, 2, 0, 40, 0);
        which(text, 1, 0, 40, 59);
        which(text, 4, 0, 1, 99);
        which(text, 4, 0, 40, 99);
        int[][] wrong = {{0, 0, 99}, {0, 41, 59}, {0, 255, 0}, {0, 128, 0}, {0, 1, 100}, {0, 1, 128}, {0, 1, 255}};
        for (int[] row : wrong) {
            ZincSermon x = Check.chapel(text);
            Check.tape(x, row);
            Check.none("see() of " + java.util.Arrays.toString(row), x, 5, y -> y.see());
        }
    }

    private static void byWhichAllIsSo() {
        Check.terms("STAINS by which all is so.");
        which(TEXT, 1, 0, 1, 8, 0, 2, 6, 1, 3, 1);
        which(TEXT, 0, 0, 1, 8, 0, 2, 6, 1, 3, 2);
        which(TEXT, 0, 0, 1, 9, 0, 2, 6);
        which(TEXT, 0, 0, 1, 8, 0, 2, 8);
        which(TEXT, 12, 0, 5, 0, 1, 3, 0);
        which(TEXT, 12, 1, 3, 0, 1, 3, 0);
        which(TEXT, 15, 0, 40, 0);
        which(TEXT, 0, 0, 1, 99);
        which("board a ribs 1 zinc 9;", 0, 0, 1, 1);
    }

    /** So many rows, by each of which t was it. */
    private static int[] rows(int n) {
        int[] rows = new int[3 * n];
        for (int k = 0; k < n; k++) {
            rows[3 * k + 1] = 1;
            rows[3 * k + 2] = 9;
        }
        return rows;
    }

    private static void howManyRows() {
        Check.promise(20, "tells SEEN, 1 to 16 rows of three bytes: how many rows;");
        ZincSermon x = Check.chapel(TEXT);
        for (int n = 1; n <= 16; n++) {
            Check.due("see() of " + n, Check.see(x, rows(n)), n);
            Check.due("rows SEEN", x.has(9), n);
            Check.due("which()", x.which(), 2);
        }
        // The last of sixteen counts, too.
        int[] last = rows(16);
        last[47] = 8;
        Check.due("see() of 16", Check.see(x, last), 16);
        Check.due("which()", x.which(), 0);
        Check.due("see() of one behind it", Check.see(x, 0, 1, 8), 1);
        Check.due("which()", x.which(), 1);
        Check.unrefused(x);
    }

    private static void refused() {
        Check.promise(20, "NONE, refused (5), when it is none such.");
        int[][] wrong = {{}, {0}, {0, 1}, {0, 2, 6, 0}, {0, 2, 6, 0, 2}, rows(17), java.util.Arrays.copyOf(rows(17), 49),
            java.util.Arrays.copyOf(rows(16), 47), rows(100), {2, 1, 1}, {3, 1, 1}, {128, 1, 1}, {255, 1, 1}, {0, 0, 1}, {0, 41, 1}, {0, 1, 100},
            {0, 2, 6, 2, 2, 6}, {0, 2, 6, 0, 0, 6}, {0, 2, 6, 0, 2, 100}, {2, 2, 6, 0, 2, 6}};
        for (int[] bytes : wrong) {
            ZincSermon x = Check.chapel(TEXT);
            Check.see(x, 0, 2, 6);
            Check.due("which() ahead", x.which(), 1);
            Check.tape(x, bytes);
            Check.none("see() of " + java.util.Arrays.toString(bytes), x, 5, y -> y.see());
            Check.due("which() stays", x.which(), 1);
        }
        ZincSermon x = Check.chapel("stain s deep 1 stuff 1;");
        Check.tape(x, 0, 1, 1);
        Check.none("see() without BOARDS", x, 5, y -> y.see());
        StringBuilder boards = new StringBuilder();
        for (int k = 0; k < 5; k++) {
            boards.append("board b").append((char) ('a' + k)).append(" ribs 1 zinc 9;");
            ZincSermon some = Check.chapel(boards.toString());
            Check.due("see() of the last BOARD of " + (k + 1), Check.see(some, k, 1, 1), 1);
            Check.tape(some, k + 1, 1, 1);
            Check.none("see() of one BOARD more than " + (k + 1), some, 5, y -> y.see());
        }
    }

    private static void tapeGoes() {
        Check.promise(20, "The tape (it goes)");
        ZincSermon x = Check.chapel(TEXT);
        Check.due("see()", Check.see(x, 0, 1, 1), 1);
        Check.due("nothing on the tape", x.end(1), false);
        Check.due("see() of nothing", x.see(), -1);
        Check.due("see() refused", Check.see(x, 0, 0, 0), -1);
        Check.due("nothing on the tape", x.end(1), false);
        Check.due("feed()", x.feed(0, 0, 0, 0, 0), 20);
    }

    private static void latestSeen() {
        Check.promise(21, "STAINS by SEEN (of the latest see() of this CHAPEL that was not refused;", "as bits.");
        ZincSermon x = Check.chapel(TEXT);
        Check.see(x, 0, 2, 6);
        Check.due("which()", x.which(), 1);
        Check.see(x, 0, 2, 8);
        Check.due("which() of the latest alone", x.which(), 2);
        Check.see(x, 0, 2, 100);
        Check.due("which() behind one refused", x.which(), 2);
        x.weeks(1);
        x.undo();
        Check.on(x, Check.image(x));
        Check.due("which() behind other calls", x.which(), 2);
        Check.due("rows SEEN behind other calls", x.has(9), 1);
        Check.tape(x, "foo");
        x.chapel();
        Check.due("which() behind a FAULT", x.which(), 2);
        Check.tape(x, TEXT);
        x.chapel();
        Check.due("which() of a new CHAPEL", x.which(), 15);
        Check.see(x, 0, 0, 0);
        Check.due("which() of a new CHAPEL, behind one refused", x.which(), 15);
    }

    private static void allWithout() {
        Check.promise(21, "all, if there was none),");
        Check.due("which() of nothing", new ZincSermon().which(), 0);
        Check.due("which() without STAINS", Check.chapel("board a ribs 1 zinc 9;").which(), 0);
        StringBuilder text = new StringBuilder();
        for (int k = 0; k < 6; k++) {
            text.append("stain s").append((char) ('a' + k)).append(" deep ").append(k % 2).append(" stuff 0;");
            Check.due("which() of " + (k + 1), Check.chapel(text.toString()).which(), (2 << k) - 1);
        }
    }

    private static final String PAIR = "board a ribs 2 zinc 9;stain s deep 9 stuff 0;stain t deep 9 stuff 1;out if(stuff=1 and rub=";

    private static void telling() {
        Check.terms("TELLING are the strokes (1 .. 40) on a told BOARD behind which by what is left, however much, the most of these left are fewest;");
        tells(Check.chapel(PAIR + "1,1,0);"), 0, 1, 1);
        tells(Check.chapel(PAIR + "7,1,0);"), 0, 7, 1);
        tells(Check.chapel(PAIR + "40,1,0);"), 0, 40, 1);
        tells(Check.chapel(PAIR + "41,1,0);"), 0, 1, 2);
        // 9 9 9 5 5, then 9 9 8 5 5, then 9 8 7 5 5: the two that stay alike are the most from the second on.
        String five = "board a ribs 2 zinc 9;board b ribs 1 zinc 50;stain s deep 9 stuff 0;stain t deep 9 stuff 1;stain u deep 9 stuff 2;"
                + "stain v deep 5 stuff 0;stain w deep 5 stuff 0;out if(ribs=1,3,if(stuff=2 and rub>1 and rub<4 or stuff=1 and rub=3,1,0));";
        ZincSermon x = Check.chapel(five);
        tells(x, 0, 2, 2);
        // Of s, t, u alone, by what is SEEN.
        Check.see(x, 1, 1, 6);
        tells(x, 0, 3, 1);
        tells(x, 1, 1, 3);
        // Of v and w, which nothing tells apart.
        Check.see(x, 1, 1, 2);
        tells(x, 0, 1, 2);
        // However much is left, nothing too: 0 0 1 behind one, 0 0 0 later.
        tells(Check.chapel("board a ribs 2 zinc 9;stain s deep 1 stuff 0;stain n deep 0 stuff 0;stain u deep 2 stuff 0;"), 0, 1, 2);
    }

    private static void tells(ZincSermon x, int board, int strokes, int left) {
        Check.due("tells(" + board + ", 0)", x.tells(board, 0), strokes);
        Check.due("tells(" + board + ", 1)", x.tells(board, 1), left);
    }

    private static void tellingOfLikeOnes() {
        Check.terms("of like ones the fewest.");
        tells(Check.chapel("board a ribs 2 zinc 9;stain s deep 9 stuff 0;stain t deep 8 stuff 1;"), 0, 1, 1);
        tells(Check.chapel("board a ribs 2 zinc 9;stain s deep 9 stuff 0;stain t deep 9 stuff 1;"), 0, 1, 2);
        tells(Check.chapel("board a ribs 2 zinc 9;stain s deep 9 stuff 0;"), 0, 1, 1);
        // Apart behind 3 and behind 5, alike behind all others.
        tells(Check.chapel("board a ribs 2 zinc 9;stain s deep 9 stuff 0;stain t deep 9 stuff 1;out if(stuff=1,if(rub=3 or rub=5,1,0),if(rub=4 or rub=6,1,0));"), 0, 3, 1);
    }

    private static void tellsPromise() {
        Check.promise(22, "TELLING on a BOARD: the strokes (what 0), how many STAINS are left at the most (1).");
        ZincSermon x = Check.chapel(TEXT);
        // On a behind 1: 8 9 5 0; on b behind 1: 7 8 4 0.
        tells(x, 0, 1, 1);
        tells(x, 1, 1, 1);
        // By s alone.
        Check.see(x, 0, 40, 0, 1, 1, 7);
        Check.due("which()", x.which(), 1);
        tells(x, 1, 1, 1);
        StringBuilder six = new StringBuilder("board a ribs 2 zinc 9;");
        for (int k = 0; k < 6; k++) {
            six.append("stain s").append((char) ('a' + k)).append(" deep 9 stuff ").append(k).append(";");
        }
        tells(Check.chapel(six.toString()), 0, 1, 6);
        tells(Check.chapel(six + "out if(rub=40,stuff,0);"), 0, 40, 1);
        // Behind 20 three and three are alike, behind 39 two, one, one and two.
        tells(Check.chapel(six + "out if(rub=39,stuff/2,if(rub=20,stuff/3,0));"), 0, 39, 2);
    }

    private static void tellsOfNone() {
        Check.promise(22, "NONE without a STAIN left, when there is none such, or for others.");
        ZincSermon x = Check.chapel(TEXT);
        int[] none = {2, 3, 5, MAX, -1, MIN};
        for (int board : none) {
            tells(x, board, -1, -1);
        }
        int[] others = {2, 3, MAX, -1, MIN};
        for (int what : others) {
            Check.due("tells(0, " + what + ")", x.tells(0, what), -1);
        }
        tells(Check.chapel("board a ribs 2 zinc 9;"), 0, -1, -1);
        tells(Check.chapel("stain s deep 9 stuff 0;"), 0, -1, -1);
        tells(new ZincSermon(), 0, -1, -1);
        Check.unrefused(x);
        Check.see(x, 0, 1, 99);
        Check.due("which()", x.which(), 0);
        tells(x, 0, -1, -1);
        Check.see(x, 0, 1, 8);
        tells(x, 0, 1, 1);
    }
}
