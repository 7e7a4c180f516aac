/** Promises 20 to 22: SEEN, which it was, TELLING. */
public final class SeenTest {
    private static final String TEXT = "board a ribs 2 zinc 9;board b ribs 3 zinc 50;"
            + "stain s deep 10 stuff 0;stain t deep 10 stuff 1;stain u deep 7 stuff 0;stain n deep 0 stuff 0;out ribs-stuff;";

    public static void main(String[] args) {
        seen();
        refused();
        whatStays();
        telling();
        tellingBySeen();
        Check.end();
    }

    private static void seen() {
        ZincSermon x = Check.chapel(TEXT);
        Check.due("which() without", x.which(), 15);
        // a: s 10 8 6 4 2 0, t 10 9 8 7 6 5, u 7 5 3 1 0; b: s 7 4 1 0, t 8 6 4, u 4 1 0.
        Check.due("see()", Check.see(x, 0, 2, 6), 1);
        Check.due("has(9)", x.has(9), 1);
        Check.due("which()", x.which(), 1);
        Check.due("see()", Check.see(x, 0, 40, 0), 1);
        Check.due("which()", x.which(), 15);
        Check.due("see()", Check.see(x, 0, 5, 0, 1, 3, 0), 2);
        Check.due("has(9)", x.has(9), 2);
        Check.due("which()", x.which(), 12);
        Check.due("see()", Check.see(x, 0, 1, 99), 1);
        Check.due("which()", x.which(), 0);
        Check.due("tells of none", x.tells(0, 0), -1);
        Check.due("tells of none", x.tells(0, 1), -1);
        Check.due("see() of 16", Check.see(x, rows(16)), 16);
        Check.due("which()", x.which(), 2);
    }

    private static int[] rows(int n) {
        int[] rows = new int[3 * n];
        for (int k = 0; k < n; k++) {
            rows[3 * k + 1] = 1;
            rows[3 * k + 2] = 9;
        }
        return rows;
    }

    private static void refused() {
        ZincSermon x = Check.chapel(TEXT);
        Check.see(x, 0, 2, 6);
        int[][] wrong = {{}, {0}, {0, 1}, {0, 1, 1, 1}, {2, 1, 1}, {255, 1, 1}, {0, 0, 1}, {0, 41, 1}, {0, 1, 100},
            {0, 1, 255}, {0, 200, 1}, rows(17), {0, 1, 1, 0, 1, 100}, {0, 2, 6, 0, 2}};
        int count = 0;
        for (int[] rows : wrong) {
            Check.due("see() of " + rows.length, Check.see(x, rows), -1);
            count++;
            Check.due("status(5)", x.status(5), count);
            Check.due("SEEN stays", x.has(9), 1);
            Check.due("which() stays", x.which(), 1);
            Check.due("the tape goes", x.feed(0, 0, 0, 0, 0), 20);
            x.end(0);
        }
        Check.due("see() at the edges", Check.see(x, 1, 40, 99), 1);
        Check.due("see() without boards", Check.see(Check.chapel("stain s deep 1 stuff 1;"), 0, 1, 1), -1);
    }

    private static void whatStays() {
        ZincSermon x = Check.chapel(TEXT);
        Check.see(x, 0, 2, 6);
        x.sermon(0, 1, 2);
        // t is 8 now, 6 behind two strokes: as they are now.
        Check.due("which() now", x.which(), 1 | 2);
        x.undo();
        Check.due("SEEN behind undo()", x.has(9), 1);
        Check.due("which() behind undo()", x.which(), 1);
        int size = x.image();
        int[] image = new int[size];
        for (int k = 0; k < size; k++) {
            image[k] = x.octet(k);
        }
        Check.tape(x, image);
        Check.due("on()", x.on(), true);
        Check.due("SEEN behind on()", x.has(9), 1);
        Check.tape(x, TEXT);
        x.chapel();
        Check.due("SEEN behind chapel()", x.has(9), 0);
        Check.due("which() behind chapel()", x.which(), 15);
    }

    private static void telling() {
        ZincSermon x = Check.chapel(TEXT);
        // On a behind 1 stroke: 8 9 5 0.
        Check.due("tells(0, 0)", x.tells(0, 0), 1);
        Check.due("tells(0, 1)", x.tells(0, 1), 1);
        Check.due("tells(2, 0)", x.tells(2, 0), -1);
        Check.due("tells(-1, 0)", x.tells(-1, 0), -1);
        Check.due("tells(0, 2)", x.tells(0, 2), -1);
        Check.due("tells(0, -1)", x.tells(0, -1), -1);
        Check.due("tells(MAX, 0)", x.tells(Integer.MAX_VALUE, 0), -1);
        // Alike until the 7th stroke: stuff 1 comes out from then on.
        x = Check.chapel("board a ribs 2 zinc 9;stain s deep 9 stuff 0;stain t deep 9 stuff 1;out if(stuff=1 and rub>6,1,0);");
        Check.due("tells 7", x.tells(0, 0), 7);
        Check.due("tells 7, left", x.tells(0, 1), 1);
        x = Check.chapel("board a ribs 2 zinc 9;stain s deep 9 stuff 0;stain t deep 9 stuff 1;out if(stuff=1 and rub=40,1,0);");
        Check.due("tells 40", x.tells(0, 0), 40);
        x = Check.chapel("board a ribs 2 zinc 9;stain s deep 9 stuff 0;stain t deep 9 stuff 1;out if(stuff=1 and rub=41,1,0);");
        Check.due("tells nothing", x.tells(0, 0), 1);
        Check.due("tells nothing, left", x.tells(0, 1), 2);
        StringBuilder six = new StringBuilder("board a ribs 2 zinc 9;");
        for (char c = 'b'; c < 'h'; c++) {
            six.append("stain ").append(c).append(" deep 9 stuff ").append(c - 'b').append(";");
        }
        x = Check.chapel(six.toString());
        Check.due("tells of six alike", x.tells(0, 0), 1);
        Check.due("tells of six alike, left", x.tells(0, 1), 6);
        x = Check.chapel(six + "out if(rub=40,stuff,0);");
        Check.due("tells of six at the 40th", x.tells(0, 0), 40);
        Check.due("tells of six at the 40th, left", x.tells(0, 1), 1);
        Check.due("tells without stains", Check.chapel("board a ribs 2 zinc 9;").tells(0, 0), -1);
    }

    private static void tellingBySeen() {
        // Behind 1: 9 9 9 5 5; behind 2: 9 9 8 5 5; behind 3 on: 9 8 7 5 5.
        ZincSermon x = Check.chapel("board a ribs 2 zinc 9;board b ribs 1 zinc 50;stain s deep 9 stuff 0;stain t deep 9 stuff 1;stain u deep 9 stuff 2;"
                + "stain v deep 5 stuff 0;stain w deep 5 stuff 0;out if(ribs=1,3,if(stuff=2 and rub>1 and rub<4 or stuff=1 and rub=3,1,0));");
        Check.due("tells of five", x.tells(0, 0), 2);
        Check.due("tells of five, left", x.tells(0, 1), 2);
        Check.see(x, 1, 1, 6);
        Check.due("which()", x.which(), 7);
        Check.due("tells of three", x.tells(0, 0), 3);
        Check.due("tells of three, left", x.tells(0, 1), 1);
        Check.see(x, 1, 1, 2);
        Check.due("tells of two", x.tells(0, 0), 1);
        Check.due("tells of two, left", x.tells(0, 1), 2);
    }
}
