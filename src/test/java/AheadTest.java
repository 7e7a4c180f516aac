/** Promises 16 to 19: what is AHEAD. */
public final class AheadTest {
    private static final String TEXT = "board a ribs 3 zinc 20;board b ribs 2 zinc 9;"
            + "stain s deep 10 stuff 0;stain t deep 10 stuff 1;stain u deep 12 stuff 2;"
            + "hearer h sin 3 ear 0;hearer i sin 9 ear 0;hearer j sin 1 ear 4;"
            + "out 2+ribs%2;wear 2;saved came>sin;slide came<ear+2;picks zinc;dry 100;";

    public static void main(String[] args) {
        byHand();
        asWeeksGo();
        atTheEnd();
        wrongOnes();
        Check.end();
    }

    private static void byHand() {
        // a: 9 come out by 3 strokes, 6 zinc go. u 12 > 3, s 10 > 1 (a is at 14), t 10 > 6 (b: 9 > 5, as a is at 8), then t on a (8): 6 > 0.
        ZincSermon x = Check.chapel(TEXT);
        int[] u = {12, 3, 3, 3, 3};
        int[] s = {10, 10, 1, 1, 1};
        int[] t = {10, 10, 10, 6, 0};
        int[] a = {20, 14, 8, 8, 4};
        int[] b = {9, 9, 9, 5, 5};
        int[] saved = {0, 5, 5, 4 + 1, 4 + 1};
        for (int n = 0; n < 5; n++) {
            Check.due("later s " + n, x.later(0, n), s[n]);
            Check.due("later t " + n, x.later(1, n), t[n]);
            Check.due("later u " + n, x.later(2, n), u[n]);
            Check.due("worn a " + n, x.worn(0, n), a[n]);
            Check.due("worn b " + n, x.worn(1, n), b[n]);
        }
        // came: 9 (h, j), 9, 4 (below 4 + 2 for j, who slides; he can't be saved by the same sermon), 6.
        saved[3] = 1;
        saved[4] = 5;
        for (int n = 0; n < 5; n++) {
            Check.due("saved " + n, x.saved(n), saved[n]);
        }
        Check.due("has(7) now", x.has(7), 0);
        Check.due("has(3) now", x.has(3), 0);
        Check.due("has(8) now", x.has(8), 0);
        Check.due("has(11) now", x.has(11), 1);
        Check.due("clean()", x.clean(), 6);
    }

    private static void asWeeksGo() {
        ZincSermon x = Check.chapel(TEXT);
        for (int n = 0; n <= 40; n++) {
            int[] wants = {x.later(0, n), x.later(1, n), x.later(2, n), x.worn(0, n), x.worn(1, n), x.saved(n)};
            if (n > 0) {
                x.weeks(n);
            }
            for (int k = 0; k < 3; k++) {
                Check.due("later " + k + " " + n, wants[k], x.stain(k, 0));
            }
            Check.due("worn 0 " + n, wants[3], x.board(0, 1));
            Check.due("worn 1 " + n, wants[4], x.board(1, 1));
            Check.due("saved " + n, wants[5], x.hearer(0, 2) + 2 * x.hearer(1, 2) + 4 * x.hearer(2, 2));
            Check.due("clean() from " + n, x.clean(), Math.max(0, 6 - n));
            if (n > 0) {
                x.undo();
            }
        }
    }

    private static void atTheEnd() {
        ZincSermon x = Check.chapel("board a ribs 1 zinc 9;stain s deep 50 stuff 0;hearer h sin 1 ear 1;out if(week=998,50,0);");
        Check.due("clean() never", x.clean(), -1);
        for (int k = 0; k < 24; k++) {
            x.weeks(40);
        }
        Check.due("week 960, 39", x.later(0, 39), 0);
        Check.due("week 960, 40", x.later(0, 40), -1);
        Check.due("clean()", x.clean(), 39);
        x.weeks(38);
        Check.due("week 998, 1", x.later(0, 1), 0);
        Check.due("week 998, 2", x.later(0, 2), -1);
        Check.due("clean()", x.clean(), 1);
        x.pour(5);
        x.weeks(1);
        Check.due("week 999, 0", x.worn(0, 0), 0);
        Check.due("week 999, 1", x.worn(0, 1), -1);
        Check.due("week 999, saved 0", x.saved(0), 0);
        Check.due("week 999, saved 1", x.saved(1), -1);
        Check.due("clean() now", x.clean(), 0);
        x.soil(0, 1);
        Check.due("clean() beyond", x.clean(), -1);
        x = Check.chapel("board a ribs 1 zinc 9;stain s deep 2 stuff 0;");
        Check.tape(x, 3, 230, 0, 9, 2, ((((211 * 5 + 3) % 251 * 5 + 230) % 251 * 5) % 251 * 25 + 47) % 251);
        Check.due("on() at WEEK 998", x.on(), true);
        Check.due("clean() would be at WEEK 1000", x.clean(), -1);
        x.sermon(0, 0, 1);
        Check.due("clean() at WEEK 999", x.clean(), 1);
        x = Check.chapel("board a ribs 1 zinc 9;stain s deep 41 stuff 0;");
        Check.due("clean() in 41", x.clean(), -1);
        x = Check.chapel("board a ribs 1 zinc 9;stain s deep 40 stuff 0;");
        Check.due("clean() in 40", x.clean(), 40);
        x = Check.chapel("stain s deep 1 stuff 0;");
        Check.due("clean() without boards", x.clean(), -1);
        Check.due("later without boards", x.later(0, 40), 1);
        Check.due("weeks without boards", x.weeks(3), 0);
        Check.due("nothing is KEPT without boards", x.has(8), 0);
    }

    private static void wrongOnes() {
        ZincSermon x = Check.chapel(TEXT);
        int[] wrong = {-1, 41, Integer.MAX_VALUE, Integer.MIN_VALUE};
        for (int n : wrong) {
            Check.due("later " + n, x.later(0, n), -1);
            Check.due("worn " + n, x.worn(0, n), -1);
            Check.due("saved " + n, x.saved(n), -1);
            Check.due("later of none " + n, x.later(n, 0), -1);
            Check.due("worn of none " + n, x.worn(n, 0), -1);
        }
        Check.due("later of none", x.later(3, 0), -1);
        Check.due("worn of none", x.worn(2, 0), -1);
        for (int what = 0; what < 6; what++) {
            Check.due("nothing is refused " + what, x.status(what), 0);
        }
    }
}
