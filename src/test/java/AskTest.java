/** Promises 6 to 10: what there is. */
public final class AskTest {
    public static void main(String[] args) {
        ZincSermon x = Check.chapel("board az ribs 9 zinc 7;stain abcdef deep 99 stuff 9;stain zz deep 0 stuff 4;"
                + "hearer m sin 8 ear 6;hearer n sin 0 ear 1;board b ribs 1 zinc 99;water 12;wear 9;saved ear>5;");
        Check.due("has(0)", x.has(0), 2);
        Check.due("has(1)", x.has(1), 2);
        Check.due("has(2)", x.has(2), 2);
        Check.due("has(4)", x.has(4), 12);
        Check.due("has(5)", x.has(5), 1);
        Check.due("has(-1)", x.has(-1), -1);
        Check.due("has(12)", x.has(12), -1);
        Check.due("has(MIN)", x.has(Integer.MIN_VALUE), -1);
        letters(x);
        things(x);
        changes(x);
        Check.end();
    }

    private static void letters(ZincSermon x) {
        int[] az = {1, 26, 0, 0, 0, 0};
        for (int k = 0; k < 6; k++) {
            Check.due("letter(0, 0, " + k + ")", x.letter(0, 0, k), az[k]);
            Check.due("letter(1, 0, " + k + ")", x.letter(1, 0, k), k + 1);
        }
        Check.due("letter(0, 1, 0)", x.letter(0, 1, 0), 2);
        Check.due("letter(2, 1, 0)", x.letter(2, 1, 0), 14);
        Check.due("letter(2, 1, 1)", x.letter(2, 1, 1), 0);
        int[][] wrong = {{-1, 0, 0}, {3, 0, 0}, {0, -1, 0}, {0, 2, 0}, {1, 2, 0}, {2, 2, 0}, {0, 0, -1}, {0, 0, 6},
            {1, Integer.MAX_VALUE, 0}, {Integer.MIN_VALUE, 0, 0}, {0, 0, Integer.MAX_VALUE}};
        for (int[] w : wrong) {
            Check.due("letter of none " + w[0] + " " + w[1] + " " + w[2], x.letter(w[0], w[1], w[2]), -1);
        }
    }

    private static void things(ZincSermon x) {
        Check.due("board(0, 0)", x.board(0, 0), 9);
        Check.due("board(0, 1)", x.board(0, 1), 7);
        Check.due("board(1, 1)", x.board(1, 1), 99);
        Check.due("stain(0, 0)", x.stain(0, 0), 99);
        Check.due("stain(0, 1)", x.stain(0, 1), 9);
        Check.due("stain(1, 0)", x.stain(1, 0), 0);
        Check.due("stain(1, 1)", x.stain(1, 1), 4);
        Check.due("hearer(0, 0)", x.hearer(0, 0), 8);
        Check.due("hearer(0, 1)", x.hearer(0, 1), 6);
        Check.due("hearer(0, 2)", x.hearer(0, 2), 0);
        int[] none = {-1, 2, 5, 6, Integer.MAX_VALUE, Integer.MIN_VALUE};
        for (int k : none) {
            Check.due("board(" + k + ", 0)", x.board(k, 0), -1);
            Check.due("stain(" + k + ", 0)", x.stain(k, 0), -1);
            Check.due("hearer(" + k + ", 0)", x.hearer(k, 0), -1);
            Check.due("board(0, " + k + ")", x.board(0, k), -1);
            Check.due("stain(0, " + k + ")", x.stain(0, k), -1);
            Check.due("hearer(0, " + (k == 2 ? 3 : k) + ")", x.hearer(0, k == 2 ? 3 : k), -1);
        }
    }

    private static void changes(ZincSermon x) {
        // The first board of like ones is taken: 9 strokes, 9 zinc each: 7 less 9 is 0.
        Check.due("weeks(1)", x.weeks(1), 9);
        Check.due("has(3)", x.has(3), 1);
        Check.due("has(6)", x.has(6), 1);
        Check.due("has(7)", x.has(7), 1);
        Check.due("has(8)", x.has(8), 1);
        Check.due("has(10)", x.has(10), 1);
        Check.due("board(0, 1)", x.board(0, 1), 0);
        Check.due("stain(0, 0)", x.stain(0, 0), 90);
        Check.due("hearer(0, 2)", x.hearer(0, 2), 1);
        Check.due("hearer(1, 2)", x.hearer(1, 2), 0);
    }
}
