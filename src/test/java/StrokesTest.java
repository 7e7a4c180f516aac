/** Promises 11 to 15: strokes, NEEDED, the BEST board, a MATCH, HEADS. */
public final class StrokesTest {
    private static final int MAX = Integer.MAX_VALUE;
    private static final int MIN = Integer.MIN_VALUE;

    public static void main(String[] args) {
        strokes();
        needed();
        neededAtTheEdges();
        best();
        match();
        matchOfLikeOnes();
        withoutMatch();
        heads();
        headsOfLikeOnes();
        headsByOrder();
        Check.end();
    }

    private static void strokes() {
        ZincSermon x = Check.chapel("board b ribs 3 zinc 9;stain s deep 99 stuff 1;stain t deep 0 stuff 1;out 2;");
        long before = Check.all(x);
        Check.due("strokes 0", x.strokes(0, 0, 0), 99);
        Check.due("strokes 1", x.strokes(0, 0, 1), 97);
        Check.due("strokes 40", x.strokes(0, 0, 40), 19);
        Check.due("strokes 41", x.strokes(0, 0, 41), -1);
        Check.due("strokes -1", x.strokes(0, 0, -1), -1);
        Check.due("strokes of nothing", x.strokes(0, 1, 40), 0);
        int[][] none = {{1, 0}, {-1, 0}, {0, 2}, {0, -1}, {MAX, 0}, {0, MIN}};
        for (int[] w : none) {
            Check.due("strokes of none", x.strokes(w[0], w[1], 1), -1);
            Check.due("needed of none", x.needed(w[0], w[1], 0), -1);
        }
        Check.due("strokes MAX", x.strokes(0, 0, MAX), -1);
        Check.due("nothing has changed", Check.all(x), before);
    }

    private static void needed() {
        ZincSermon x = Check.chapel("board b ribs 3 zinc 9;stain s deep 17 stuff 1;stain t deep 18 stuff 1;"
                + "stain u deep 0 stuff 1;stain v deep 16 stuff 0;out 2;");
        Check.due("needed s", x.needed(0, 0, 0), 9);
        Check.due("safe s", x.needed(0, 0, 1), 0);
        Check.due("needed v", x.needed(0, 3, 0), 8);
        Check.due("safe v", x.needed(0, 3, 1), 1);
        Check.due("needed u", x.needed(0, 2, 0), 0);
        Check.due("safe u", x.needed(0, 2, 1), 1);
        Check.due("needed what 2", x.needed(0, 0, 2), -1);
        Check.due("needed what -1", x.needed(0, 0, -1), -1);
        x.sermon(0, 0, 40);
        Check.due("zinc is gone", x.board(0, 1), 0);
        Check.due("needed of what is out", x.needed(0, 0, 0), 0);
        Check.due("safe without zinc", x.needed(0, 0, 1), 0);
        Check.due("has(6)", x.has(6), 1);
    }

    private static void neededAtTheEdges() {
        ZincSermon x = Check.chapel("board b ribs 3 zinc 9;stain s deep 99 stuff 1;wear 0;");
        Check.due("99 needed", x.needed(0, 0, 0), 99);
        Check.due("safe", x.needed(0, 0, 1), 1);
        Check.due("best of 99", x.best(0), 0);
        Check.due("match of 99", x.match(-1), 99);
        Check.due("heads of 99", x.heads(0, 1), 99);
        x = Check.chapel("board b ribs 3 zinc 9;stain s deep 99 stuff 1;wear 0;out if(rub=1,0,1);");
        Check.due("99 are not enough", x.needed(0, 0, 0), -1);
        Check.due("99 are not enough, safe", x.needed(0, 0, 1), -1);
        Check.due("best without one", x.best(0), -1);
        // rub goes beyond the 40 of a sermon.
        x = Check.chapel("board b ribs 3 zinc 9;stain s deep 1 stuff 1;wear 0;out if(rub=99,1,0);");
        Check.due("the 99th stroke", x.needed(0, 0, 0), 99);
        x = Check.chapel("board b ribs 3 zinc 9;stain s deep 1 stuff 1;wear 0;out if(rub=100,1,0);");
        Check.due("the 100th stroke", x.needed(0, 0, 0), -1);
    }

    private static void best() {
        ZincSermon x = Check.chapel("board a ribs 2 zinc 99;board b ribs 4 zinc 1;board c ribs 4 zinc 99;"
                + "stain s deep 8 stuff 1;stain t deep 0 stuff 1;out ribs;");
        Check.due("best, safe or not", x.best(0), 1);
        Check.due("needed 0", x.needed(0, 0, 0), 4);
        Check.due("needed 1", x.needed(1, 0, 0), 2);
        Check.due("safe 1", x.needed(1, 0, 1), 0);
        Check.due("best of nothing left", x.best(1), 0);
        Check.due("best of none", x.best(2), -1);
        Check.due("best of -1", x.best(-1), -1);
        Check.due("best of MAX", x.best(MAX), -1);
        Check.due("best without boards", Check.chapel("stain s deep 8 stuff 1;").best(0), -1);
    }

    private static void match() {
        // Strokes: s 12/ribs, t 6/ribs; a 1 rib, b 2 ribs, c 6 ribs.
        ZincSermon x = Check.chapel("board a ribs 1 zinc 50;board b ribs 2 zinc 50;board c ribs 6 zinc 50;"
                + "stain s deep 12 stuff 1;stain n deep 0 stuff 0;stain t deep 6 stuff 1;out ribs;");
        Check.due("match(NONE)", x.match(-1), 2 + 3);
        Check.due("match(0)", x.match(0), 2);
        Check.due("match(1)", x.match(1), -1);
        Check.due("match(2)", x.match(2), 1);
        Check.due("match(3)", x.match(3), -1);
        Check.due("match(-2)", x.match(-2), -1);
        Check.due("match(MIN)", x.match(MIN), -1);
        // What changes the boards changes the match: c is worn to 1, so nothing on it is safe.
        Check.tape(x, Check.sealed(0, 0, 0, 50, 50, 1, 12, 0, 6));
        Check.due("on()", x.on(), true);
        Check.due("match(NONE)", x.match(-1), 6 + 6);
        Check.due("match(0)", x.match(0), 1);
        Check.due("match(2)", x.match(2), 0);
        x.mend(2);
        Check.due("match(NONE) mended", x.match(-1), 5);
        x.undo();
        Check.due("match(NONE) undone", x.match(-1), 12);
        x.soil(1, 1);
        Check.due("match(NONE) of three", x.match(-1), -1);
        x.undo();
        x.sermon(0, 0, 40);
        Check.due("match(NONE) of one", x.match(-1), 3);
        Check.due("match(0) of what is out", x.match(0), -1);
    }

    private static void matchOfLikeOnes() {
        ZincSermon x = Check.chapel("board a ribs 1 zinc 50;board b ribs 1 zinc 50;board c ribs 1 zinc 50;"
                + "stain s deep 5 stuff 1;stain t deep 6 stuff 1;stain u deep 7 stuff 1;");
        Check.due("match(NONE)", x.match(-1), 18);
        for (int k = 0; k < 3; k++) {
            Check.due("match(" + k + ")", x.match(k), k);
        }
        // The fewest together, not the first that is free: s is as quick on a as t is slow there.
        x = Check.chapel("board a ribs 1 zinc 50;board b ribs 2 zinc 50;stain s deep 4 stuff 1;stain t deep 4 stuff 2;"
                + "out if(ribs=1,if(stuff=1,4,2),if(stuff=1,2,1));");
        Check.due("match(NONE)", x.match(-1), 4);
        Check.due("match(0)", x.match(0), 1);
        Check.due("match(1)", x.match(1), 0);
    }

    private static void withoutMatch() {
        ZincSermon x = Check.chapel("board a ribs 1 zinc 5;stain s deep 5 stuff 1;");
        Check.due("match, unsafe", x.match(-1), -1);
        Check.due("match(0), unsafe", x.match(0), -1);
        x = Check.chapel("board a ribs 1 zinc 6;stain s deep 5 stuff 1;stain t deep 0 stuff 0;");
        Check.due("match, safe", x.match(-1), 5);
        x = Check.chapel("board a ribs 1 zinc 60;stain s deep 5 stuff 1;stain t deep 1 stuff 0;");
        Check.due("match of too few boards", x.match(-1), -1);
        x = Check.chapel("stain s deep 5 stuff 1;");
        Check.due("match without boards", x.match(-1), -1);
        x = Check.chapel("stain s deep 0 stuff 1;");
        Check.due("match of nothing left", x.match(-1), 0);
        Check.due("match(0) of nothing left", x.match(0), -1);
    }

    private static void heads() {
        ZincSermon x = Check.chapel("board a ribs 1 zinc 10;board b ribs 1 zinc 1;"
                + "stain s deep 8 stuff 1;stain t deep 3 stuff 1;stain n deep 0 stuff 1;stain u deep 5 stuff 1;stain v deep 4 stuff 1;");
        // On a 9 strokes can be done: two heads; t and v are the fewest.
        due(x, 0, 2, 7, 1, 4);
        due(x, 1, 0, 0);
        Check.due("heads(2, 0)", x.heads(2, 0), -1);
        Check.due("heads(-1, 0)", x.heads(-1, 0), -1);
        Check.due("heads(0, -1)", x.heads(0, -1), -1);
        Check.due("heads(0, MIN)", x.heads(0, MIN), -1);
        Check.due("heads(0, MAX)", x.heads(0, MAX), -1);
        x.sermon(0, 1, 3);
        due(x, 0, 1, 4, 4);
        x.undo();
        due(x, 0, 2, 7, 1, 4);
        x.soil(1, 90);
        due(x, 0, 2, 9, 3, 4);
        x.soil(3, 1);
        due(x, 0, 1, 4, 4);
    }

    private static void due(ZincSermon x, int board, int... wants) {
        for (int what = 0; what < 9; what++) {
            int want = what < wants.length ? wants[what] : -1;
            Check.due("heads(" + board + ", " + what + ")", x.heads(board, what), want);
        }
    }

    private static void headsOfLikeOnes() {
        ZincSermon x = Check.chapel("board a ribs 1 zinc 99;stain s deep 6 stuff 1;stain t deep 5 stuff 1;stain u deep 4 stuff 1;"
                + "stain v deep 3 stuff 1;stain w deep 2 stuff 1;stain x deep 1 stuff 1;");
        due(x, 0, 6, 21, 0, 1, 2, 3, 4, 5);
        x = Check.chapel("board a ribs 1 zinc 9;stain s deep 6 stuff 1;stain t deep 4 stuff 1;stain u deep 4 stuff 1;stain v deep 4 stuff 1;");
        due(x, 0, 2, 8, 1, 2);
    }

    private static void headsByOrder() {
        // More comes out by a worn board: s (one stroke, 4 zinc) ahead of t makes that 3 strokes, not 6.
        ZincSermon x = Check.chapel("board a ribs 1 zinc 20;stain t deep 12 stuff 0;stain s deep 1 stuff 1;"
                + "out if(zinc>16,1,4);wear if(stuff=1,4,1);");
        due(x, 0, 2, 4, 1, 0);
        // rub begins anew with each stain.
        x = Check.chapel("board a ribs 1 zinc 20;stain s deep 3 stuff 1;stain t deep 3 stuff 1;out rub;");
        due(x, 0, 2, 4, 0, 1);
        // A stain that wears the board through can't be gone over, even as the last one.
        x = Check.chapel("board a ribs 1 zinc 5;stain s deep 2 stuff 9;stain t deep 2 stuff 1;wear if(stuff=9,3,0);");
        due(x, 0, 1, 2, 1);
    }
}
