/** The boundary cases of promises 11 to 15 and of Terms III: strokes, NEEDED, the BEST board, a MATCH, HEADS. */
final class StrokesEdges {
    private static final int MAX = Integer.MAX_VALUE;
    private static final int MIN = Integer.MIN_VALUE;
    private static final String TWO = "board a ribs 2 zinc 9;board b ribs 3 zinc 50;stain s deep 90 stuff 0;stain t deep 7 stuff 1;stain n deep 0 stuff 2;";

    private StrokesEdges() {
    }

    static void run() {
        strokes();
        strokesNow();
        strokesOfNone();
        neededTerm();
        safe();
        neededPromise();
        neededOfNone();
        bestTerm();
        bestPromise();
        matchTerm();
        matchOfLikeOnes();
        matchPromise();
        withoutMatch();
        headsTerm();
        headsMost();
        headsOfLikeOnes();
        headsPromise();
        headsOfNone();
        asThingsChange();
    }

    private static void strokes() {
        Check.promise(11, "How much of a STAIN is left behind n strokes (0 .. 40) on a BOARD,");
        ZincSermon x = Check.chapel(TWO + "out ribs;");
        Check.due("strokes(0, 0, 0)", x.strokes(0, 0, 0), 90);
        Check.due("strokes(0, 0, 1)", x.strokes(0, 0, 1), 88);
        Check.due("strokes(0, 0, 39)", x.strokes(0, 0, 39), 12);
        Check.due("strokes(0, 0, 40)", x.strokes(0, 0, 40), 10);
        Check.due("strokes(1, 0, 29)", x.strokes(1, 0, 29), 3);
        Check.due("strokes(1, 0, 30)", x.strokes(1, 0, 30), 0);
        Check.due("strokes(1, 0, 40)", x.strokes(1, 0, 40), 0);
        Check.due("strokes(1, 1, 3)", x.strokes(1, 1, 3), 0);
        Check.due("strokes(0, 2, 0) of nothing", x.strokes(0, 2, 0), 0);
        Check.due("strokes(0, 2, 40) of nothing", x.strokes(0, 2, 40), 0);
    }

    private static void strokesNow() {
        Check.promise(11, "as they are now;");
        ZincSermon x = Check.chapel(TWO + "out zinc/10+water+week*10;wear 5;");
        long before = Check.all(x);
        Check.due("at first", x.strokes(1, 0, 1), 85);
        Check.due("two strokes", x.strokes(1, 0, 2), 81);
        Check.due("nothing has changed", Check.all(x), before);
        x.sermon(1, 1, 1);
        Check.due("by the zinc now", x.strokes(1, 0, 1), 86);
        x.soil(0, 9);
        Check.due("by the depth now", x.strokes(1, 0, 1), 95);
        x.pour(9);
        Check.due("by the water now", x.strokes(1, 0, 1), 86);
        x.mend(1);
        Check.due("by the zinc mended", x.strokes(1, 0, 1), 85);
        Check.on(x, Check.sealed(0, 2, 0, 9, 50, 90, 7, 0));
        Check.due("by the WEEK now", x.strokes(1, 0, 1), 65);
    }

    private static void strokesOfNone() {
        Check.promise(11, "NONE when there are none such, or n can't be.");
        ZincSermon x = Check.chapel(TWO);
        int[] wrong = {41, 42, 99, MAX, -1, MIN};
        for (int n : wrong) {
            Check.due("strokes(0, 0, " + n + ")", x.strokes(0, 0, n), -1);
            Check.due("strokes(0, 2, " + n + ") of nothing", x.strokes(0, 2, n), -1);
        }
        int[][] none = {{2, 0}, {3, 0}, {5, 0}, {-1, 0}, {MAX, 0}, {MIN, 0}, {0, 3}, {0, 6}, {0, -1}, {0, MAX}, {0, MIN}, {2, 3}};
        for (int[] both : none) {
            Check.due("strokes(" + both[0] + ", " + both[1] + ", 0)", x.strokes(both[0], both[1], 0), -1);
            Check.due("strokes(" + both[0] + ", " + both[1] + ", 1)", x.strokes(both[0], both[1], 1), -1);
        }
        Check.due("without STAINS", Check.chapel("board a ribs 1 zinc 1;").strokes(0, 0, 0), -1);
        Check.due("without BOARDS", Check.chapel("stain s deep 1 stuff 1;").strokes(0, 0, 0), -1);
        Check.unrefused(x);
    }

    /** A STAIN 99 deep on a BOARD of 9 zinc, by what is told. */
    private static ZincSermon deep99(String rules) {
        return Check.chapel("board a ribs 1 zinc 9;stain s deep 99 stuff 0;" + rules);
    }

    private static void neededTerm() {
        Check.terms("NEEDED are the strokes (99 at most, one SERMON, whoever is saved) by which nothing is left of a STAIN on a BOARD, as they are now;");
        Check.due("99", deep99("wear 0;").needed(0, 0, 0), 99);
        Check.due("99 of which the last is all", deep99("out if(rub=99,99,0);").needed(0, 0, 0), 99);
        Check.due("100", deep99("out if(rub=1,0,1);").needed(0, 0, 0), -1);
        Check.due("100 of which the last is all", deep99("out if(rub=100,99,0);").needed(0, 0, 0), -1);
        Check.due("never", deep99("out 0;").needed(0, 0, 0), -1);
        Check.due("1", deep99("out 99;").needed(0, 0, 0), 1);
        // Nobody is saved by it, and nothing is done.
        ZincSermon x = deep99("hearer h sin 1 ear 1;saved all;out zinc+water*90;");
        Check.due("now", x.needed(0, 0, 0), -1);
        Check.due("nobody is saved", x.has(7), 0);
        Check.due("nothing is worn", x.board(0, 1), 9);
        x.pour(1);
        Check.due("by the water now", x.needed(0, 0, 0), 1);
        x.undo();
        x.sermon(0, 0, 1);
        Check.due("90 left, with zinc 8", x.strokes(0, 0, 1), 82);
    }

    private static void safe() {
        Check.terms("they are SAFE, if some zinc is left then.");
        ZincSermon x = Check.chapel("board a ribs 1 zinc 9;stain s deep 8 stuff 0;stain t deep 9 stuff 0;stain u deep 10 stuff 0;stain n deep 0 stuff 0;");
        int[] safe = {1, 0, 0, 1};
        int[] needed = {8, 9, 10, 0};
        for (int stain = 0; stain < 4; stain++) {
            Check.due("NEEDED of " + stain, x.needed(0, stain, 0), needed[stain]);
            Check.due("SAFE of " + stain, x.needed(0, stain, 1), safe[stain]);
        }
        x.sermon(0, 1, 9);
        Check.due("zinc", x.board(0, 1), 0);
        Check.due("nothing left, no zinc", x.needed(0, 1, 1), 0);
        Check.due("NEEDED without zinc", x.needed(0, 0, 0), 8);
        Check.due("SAFE without zinc", x.needed(0, 0, 1), 0);
    }

    private static void neededPromise() {
        Check.promise(12, "NEEDED of a STAIN on a BOARD: how many (what 0; 0 if nothing is left), whether SAFE (1).");
        ZincSermon x = Check.chapel(TWO + "out ribs;");
        Check.due("needed(0, 0, 0)", x.needed(0, 0, 0), 45);
        Check.due("needed(0, 0, 1)", x.needed(0, 0, 1), 0);
        Check.due("needed(1, 0, 0)", x.needed(1, 0, 0), 30);
        Check.due("needed(1, 0, 1)", x.needed(1, 0, 1), 1);
        Check.due("needed(0, 2, 0) of nothing", x.needed(0, 2, 0), 0);
        Check.due("needed(0, 2, 1) of nothing", x.needed(0, 2, 1), 1);
    }

    private static void neededOfNone() {
        Check.promise(12, "NONE when 99 are not enough, there are none such, or for others.");
        Check.due("99 are enough", deep99("").needed(0, 0, 0), 99);
        Check.due("99 are enough, SAFE", deep99("").needed(0, 0, 1), 0);
        Check.due("99 are not enough", deep99("out if(rub=1,0,1);").needed(0, 0, 0), -1);
        Check.due("99 are not enough, SAFE", deep99("wear 0;out if(rub=1,0,1);").needed(0, 0, 1), -1);
        ZincSermon x = Check.chapel(TWO);
        int[][] none = {{2, 0}, {-1, 0}, {MAX, 0}, {MIN, 0}, {0, 3}, {0, -1}, {0, MAX}, {0, MIN}};
        for (int[] both : none) {
            for (int what = 0; what < 2; what++) {
                Check.due("needed(" + both[0] + ", " + both[1] + ", " + what + ")", x.needed(both[0], both[1], what), -1);
            }
        }
        int[] others = {2, 3, MAX, -1, MIN};
        for (int what : others) {
            Check.due("needed(1, 1, " + what + ")", x.needed(1, 1, what), -1);
            Check.due("needed(1, 2, " + what + ") of nothing", x.needed(1, 2, what), -1);
        }
        Check.unrefused(x);
    }

    private static void bestTerm() {
        Check.terms("The BEST board for a STAIN is the one of fewest NEEDED, SAFE or not; of like ones the first.");
        ZincSermon x = Check.chapel("board a ribs 2 zinc 99;board b ribs 4 zinc 1;board c ribs 4 zinc 99;board d ribs 3 zinc 99;"
                + "stain s deep 8 stuff 1;stain t deep 0 stuff 1;stain u deep 4 stuff 2;out if(stuff=1,ribs,5-ribs);");
        Check.due("best(0): NEEDED 4 2 2 3, the second not SAFE", x.best(0), 1);
        Check.due("it is not SAFE", x.needed(1, 0, 1), 0);
        Check.due("best(1): nothing left, all like", x.best(1), 0);
        Check.due("best(2): NEEDED 2 4 4 2", x.best(2), 0);
        // One that can't be done is not fewer.
        x = Check.chapel("board a ribs 1 zinc 9;board b ribs 2 zinc 9;stain s deep 99 stuff 1;out if(ribs=1,0,1);");
        Check.due("the first can't", x.best(0), 1);
        x = Check.chapel("board a ribs 1 zinc 9;board b ribs 2 zinc 9;stain s deep 99 stuff 1;out if(ribs=1,1,0);");
        Check.due("the second can't", x.best(0), 0);
    }

    private static void bestPromise() {
        Check.promise(13, "The BEST board for a STAIN; NONE without one, or when there is none such.");
        Check.due("NEEDED 99", deep99("").best(0), 0);
        Check.due("NEEDED 100", deep99("out if(rub=1,0,1);").best(0), -1);
        Check.due("without BOARDS", Check.chapel("stain s deep 9 stuff 1;stain n deep 0 stuff 1;").best(0), -1);
        Check.due("without BOARDS, nothing left", Check.chapel("stain s deep 9 stuff 1;stain n deep 0 stuff 1;").best(1), -1);
        ZincSermon x = Check.chapel(TWO);
        int[] none = {3, 4, 6, MAX, -1, -2, MIN};
        for (int stain : none) {
            Check.due("best(" + stain + ")", x.best(stain), -1);
            Check.due("best(" + stain + ") of nothing", new ZincSermon().best(stain), -1);
        }
        Check.unrefused(x);
    }

    private static void matchTerm() {
        Check.terms("A MATCH is a BOARD for each STAIN of which something is left, unlike ones, by which NEEDED are SAFE: of the fewest strokes together,");
        // s on a 12, b 6, c 2; t on a 6, b 3, c 1: c for both would be 3, s on c and t on b is 5.
        String boards = "board a ribs 1 zinc 50;board b ribs 2 zinc 50;board c ribs 6 zinc ";
        String stains = "stain s deep 12 stuff 1;stain n deep 0 stuff 0;stain t deep 6 stuff 1;out ribs;";
        row(Check.chapel(boards + "50;" + stains), 5, 2, -1, 1);
        // c has 3 zinc: 2 strokes leave 1, that is SAFE; with 2 they leave 0: t on c (1 stroke), s on b.
        row(Check.chapel(boards + "3;" + stains), 5, 2, -1, 1);
        row(Check.chapel(boards + "2;" + stains), 7, 1, -1, 2);
        // With 1 nothing on c is SAFE.
        row(Check.chapel(boards + "1;" + stains), 12, 1, -1, 0);
        // Together: the first STAIN takes its worse BOARD.
        row(Check.chapel("board a ribs 1 zinc 50;board b ribs 2 zinc 50;stain s deep 4 stuff 1;stain t deep 4 stuff 2;"
                + "out if(ribs=1,if(stuff=1,4,2),if(stuff=1,2,1));"), 4, 1, 0);
        // Five STAINS on five BOARDS, each SAFE on one alone; the sixth is nothing.
        StringBuilder five = new StringBuilder("stain n deep 0 stuff 9;out if(ribs=stuff,9,0);");
        for (int k = 1; k <= 5; k++) {
            five.append("board b").append((char) ('a' + k)).append(" ribs ").append(6 - k).append(" zinc 3;");
            five.append("stain s").append((char) ('a' + k)).append(" deep ").append(9 + k).append(" stuff ").append(k).append(";");
        }
        row(Check.chapel(five.toString()), 10, -1, 4, 3, 2, 1, 0);
    }

    private static void row(ZincSermon x, int strokes, int... boards) {
        Check.due("match(NONE)", x.match(-1), strokes);
        for (int stain = 0; stain < boards.length; stain++) {
            Check.due("match(" + stain + ")", x.match(stain), boards[stain]);
        }
    }

    private static void matchOfLikeOnes() {
        Check.terms("of like ones the first row (STAIN by STAIN, by numbers of BOARDS).");
        String boards = "board a ribs 1 zinc 50;board b ribs 1 zinc 50;board c ribs 1 zinc 50;";
        row(Check.chapel(boards + "stain s deep 5 stuff 1;stain t deep 6 stuff 1;stain u deep 7 stuff 1;"), 18, 0, 1, 2);
        row(Check.chapel(boards + "stain n deep 0 stuff 1;stain t deep 6 stuff 1;stain u deep 7 stuff 1;"), 13, -1, 0, 1);
        // s on a or b 5, t on a or b 5 and on c 9: 0 1 and 1 0 are like.
        row(Check.chapel(boards.replace("c ribs 1", "c ribs 9") + "stain s deep 5 stuff 1;stain t deep 5 stuff 1;out if(ribs=9,0,1);"), 10, 0, 1);
        // 0 1 (3 + 1) and 1 0 (1 + 3) are like, 0 1 is the first.
        row(Check.chapel("board a ribs 1 zinc 50;board b ribs 3 zinc 50;stain s deep 3 stuff 1;stain t deep 3 stuff 2;out ribs;"), 4, 0, 1);
    }

    private static void matchPromise() {
        Check.promise(14, "A MATCH: strokes together (stain NONE), the BOARD of a STAIN (NONE, if nothing of it is left).");
        row(Check.chapel(TWO + "wear 0;out 9;"), 11, 0, 1, -1);
        Check.due("nothing left", Check.chapel("board a ribs 1 zinc 1;stain s deep 0 stuff 1;").match(-1), 0);
        Check.due("nothing left, its BOARD", Check.chapel("board a ribs 1 zinc 1;stain s deep 0 stuff 1;").match(0), -1);
        Check.due("nothing left, without BOARDS", Check.chapel("stain s deep 0 stuff 1;").match(-1), 0);
        Check.due("without STAINS", Check.chapel("board a ribs 1 zinc 1;").match(-1), 0);
        Check.due("of nothing at all", new ZincSermon().match(-1), 0);
        row(deep99("wear 0;"), 99, 0);
    }

    private static void withoutMatch() {
        Check.promise(14, "NONE without one, or when there is none such.");
        row(Check.chapel("board a ribs 1 zinc 5;stain s deep 5 stuff 1;"), -1, -1);
        row(Check.chapel("board a ribs 1 zinc 6;stain s deep 5 stuff 1;"), 5, 0);
        row(Check.chapel("board a ribs 1 zinc 60;stain s deep 5 stuff 1;stain t deep 1 stuff 0;"), -1, -1, -1);
        row(Check.chapel("stain s deep 5 stuff 1;"), -1, -1);
        row(deep99("wear 0;out if(rub=1,0,1);"), -1, -1);
        // Six STAINS are too many for any BOARDS.
        StringBuilder six = new StringBuilder();
        for (char c = 'a'; c < 'g'; c++) {
            six.append(c < 'f' ? "board b" + c + " ribs 1 zinc 9;" : "").append("stain s").append(c).append(" deep 1 stuff 1;");
        }
        row(Check.chapel(six.toString()), -1, -1, -1, -1, -1, -1, -1);
        ZincSermon x = Check.chapel(TWO + "wear 0;out 9;");
        int[] none = {3, 4, 6, MAX, -2, MIN};
        for (int stain : none) {
            Check.due("match(" + stain + ")", x.match(stain), -1);
        }
        Check.unrefused(x);
    }

    private static void headsTerm() {
        Check.terms("HEADS of a BOARD are STAINS of which something is left, brought out on it one after the other (by NEEDED, each as the BOARD is then), some zinc being left behind each:");
        // Nothing is left of n; s takes 3 of 6 zinc, then t the 2 of 3.
        ZincSermon x = Check.chapel("board a ribs 1 zinc 6;stain n deep 0 stuff 0;stain s deep 3 stuff 0;stain t deep 2 stuff 0;");
        due(x, 0, 2, 5, 1, 2);
        // With 5 zinc none would be left behind both.
        x = Check.chapel("board a ribs 1 zinc 5;stain n deep 0 stuff 0;stain s deep 3 stuff 0;stain t deep 2 stuff 0;");
        due(x, 0, 1, 2, 2);
        // Each as the BOARD is then: 1 comes out by a new board, 4 by a worn one.
        x = Check.chapel("board a ribs 1 zinc 20;stain t deep 12 stuff 0;stain s deep 1 stuff 1;out if(zinc>16,1,4);wear if(stuff=1,4,1);");
        due(x, 0, 2, 4, 1, 0);
        // rub begins anew with each: 2 strokes (1 + 2) for 3, not 1.
        x = Check.chapel("board a ribs 1 zinc 20;stain s deep 3 stuff 1;stain t deep 3 stuff 1;out rub;");
        due(x, 0, 2, 4, 0, 1);
        // NEEDED: 99 can be, 100 can't.
        due(deep99("wear 0;"), 0, 1, 99, 0);
        due(deep99("wear 0;out if(rub=1,0,1);"), 0, 0, 0);
        // 99 each, not in all.
        due(Check.chapel("board a ribs 1 zinc 9;stain s deep 99 stuff 0;stain t deep 99 stuff 0;wear 0;"), 0, 2, 198, 0, 1);
        // Worn through by the last one: not that one.
        due(Check.chapel("board a ribs 1 zinc 5;stain s deep 2 stuff 9;stain t deep 2 stuff 1;wear if(stuff=9,3,0);"), 0, 1, 2, 1);
        // The last zinc is some, where nothing wears it.
        due(Check.chapel("board a ribs 1 zinc 1;stain s deep 2 stuff 0;wear 0;"), 0, 1, 2, 0);
        due(Check.chapel("board a ribs 1 zinc 3;stain s deep 2 stuff 0;stain t deep 5 stuff 1;wear 1-stuff;"), 0, 2, 7, 0, 1);
        // Without zinc none.
        x = Check.chapel("board a ribs 1 zinc 1;stain s deep 2 stuff 9;stain t deep 1 stuff 9;wear if(week=0,1,0);");
        x.sermon(0, 0, 1);
        x.weeks(1);
        Check.due("zinc", x.board(0, 1), 0);
        due(x, 0, 0, 0);
        due(Check.chapel("board a ribs 1 zinc 9;"), 0, 0, 0);
    }

    private static void due(ZincSermon x, int board, int... wants) {
        for (int what = 0; what < 9; what++) {
            Check.due("heads(" + board + ", " + what + ")", x.heads(board, what), what < wants.length ? wants[what] : -1);
        }
    }

    private static void headsMost() {
        Check.terms("the most, of these by the fewest strokes together,");
        // 9 strokes at most: s alone would be 8, but t and v are two, and fewer than t and u.
        ZincSermon x = Check.chapel("board a ribs 1 zinc 10;stain s deep 8 stuff 1;stain t deep 3 stuff 1;stain u deep 5 stuff 1;stain v deep 4 stuff 1;");
        due(x, 0, 2, 7, 1, 3);
        // More STAINS go ahead of fewer strokes.
        due(Check.chapel("board a ribs 1 zinc 10;stain s deep 1 stuff 1;stain t deep 8 stuff 1;"), 0, 2, 9, 0, 1);
        // All six: 1 + .. + 6.
        StringBuilder six = new StringBuilder();
        for (int k = 0; k < 6; k++) {
            six.append("stain s").append((char) ('a' + k)).append(" deep ").append(6 - k).append(" stuff 1;");
        }
        due(Check.chapel("board a ribs 1 zinc 22;" + six), 0, 6, 21, 0, 1, 2, 3, 4, 5);
        due(Check.chapel("board a ribs 1 zinc 21;" + six), 0, 5, 15, 1, 2, 3, 4, 5);
        // Fewer strokes by another order: 2 2 as told, 2 1 the other way.
        due(Check.chapel("board a ribs 1 zinc 9;stain s deep 2 stuff 0;stain t deep 2 stuff 1;out if(zinc<9 and stuff=0,2,1);"), 0, 2, 3, 1, 0);
    }

    private static void headsOfLikeOnes() {
        Check.terms("some zinc being left behind each: the most, of these by the fewest strokes together, of like ones the first row.");
        due(Check.chapel("board a ribs 1 zinc 99;stain s deep 6 stuff 1;stain t deep 5 stuff 1;stain u deep 4 stuff 1;"), 0, 3, 15, 0, 1, 2);
        due(Check.chapel("board a ribs 1 zinc 9;stain s deep 6 stuff 1;stain t deep 4 stuff 1;stain u deep 4 stuff 1;stain v deep 4 stuff 1;"), 0, 2, 8, 1, 2);
        // s must not be last, t not first: u ahead of s ahead of t isn't the first row.
        due(Check.chapel("board a ribs 1 zinc 9;stain s deep 1 stuff 1;stain t deep 1 stuff 2;stain u deep 1 stuff 3;out if(stuff=2 and zinc=9,0,1);wear if(stuff=2 and zinc=9,9,1);"),
                0, 3, 3, 0, 1, 2);
    }

    private static void headsPromise() {
        Check.promise(15, "HEADS of a BOARD: how many (what 0), strokes together (1), the k-th STAIN (what 2 + k).");
        ZincSermon x = Check.chapel("board a ribs 1 zinc 10;board b ribs 1 zinc 1;board c ribs 3 zinc 10;stain s deep 9 stuff 1;stain t deep 3 stuff 1;out ribs;");
        due(x, 0, 1, 3, 1);
        due(x, 1, 0, 0);
        due(x, 2, 2, 4, 0, 1);
        due(x, 0, 1, 3, 1);
    }

    private static void headsOfNone() {
        Check.promise(15, "NONE when there is none such, or for others.");
        ZincSermon x = Check.chapel("board a ribs 1 zinc 10;stain s deep 9 stuff 1;stain t deep 3 stuff 1;");
        int[] none = {1, 2, 5, MAX, -1, MIN};
        for (int board : none) {
            for (int what = 0; what < 3; what++) {
                Check.due("heads(" + board + ", " + what + ")", x.heads(board, what), -1);
            }
        }
        int[] others = {3, 4, 7, 8, 9, MAX, MAX - 1, -1, -2, MIN, MIN + 1, MIN + 2};
        for (int what : others) {
            Check.due("heads(0, " + what + ")", x.heads(0, what), -1);
        }
        Check.due("without BOARDS", Check.chapel("stain s deep 9 stuff 1;").heads(0, 0), -1);
        Check.unrefused(x);
    }

    /** NEEDED, a MATCH and HEADS go by how all is now, whatever has changed it. */
    private static void asThingsChange() {
        Check.terms("as they are now;");
        ZincSermon x = Check.chapel("board a ribs 2 zinc 12;board b ribs 1 zinc 30;stain s deep 8 stuff 0;stain t deep 6 stuff 0;out ribs+water;");
        int[] image = Check.image(x);
        now(x, 4, 4 + 6, 0, 7, 2);
        x.pour(1);
        now(x, 3, 3 + 3, 0, 5, 2);
        x.undo();
        now(x, 4, 4 + 6, 0, 7, 2);
        x.soil(1, 16);
        now(x, 4, 19, 1, 4, 1);
        x.undo();
        x.sermon(0, 0, 1);
        now(x, 3, 3 + 6, 0, 6, 2);
        x.mend(0);
        now(x, 3, 3 + 6, 0, 6, 2);
        x.weeks(1);
        now(x, 1, 2 + 3, 1, 4, 2);
        x.chance(1);
        now(x, 1, 1 + 2, 0, 2, 2);
        Check.due("on()", Check.on(x, image), true);
        now(x, 4, 4 + 6, 0, 7, 2);
    }

    private static void now(ZincSermon x, int needed, int together, int board, int strokes, int heads) {
        Check.due("needed(0, 0, 0)", x.needed(0, 0, 0), needed);
        Check.due("match(NONE)", x.match(-1), together);
        Check.due("match(0)", x.match(0), board);
        Check.due("heads(0, 0)", x.heads(0, 0), heads);
        Check.due("heads(0, 1)", x.heads(0, 1), strokes);
    }
}
