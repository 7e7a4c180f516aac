/** Many CHAPELS by a row of draws: answers that must agree with one another, whatever the text. */
public final class CrossTest {
    private static long drawn = 4711;

    private static int draw(int m) {
        drawn = (6364136223846793005L * drawn + 1442695040888963407L);
        return (int) ((drawn >>> 33) % m);
    }

    private static String one(String... all) {
        return all[draw(all.length)];
    }

    public static void main(String[] args) {
        for (int k = 0; k < 400; k++) {
            ZincSermon x = Check.chapel(text());
            strokesAsSermons(x);
            neededAsStrokes(x);
            bestByNeeded(x);
            matchByNeeded(x);
            headsByTrial(x);
            aheadAsWeeks(x);
            whichByStrokes(x);
        }
        Check.end();
    }

    private static String text() {
        StringBuilder t = new StringBuilder();
        int boards = 1 + draw(5);
        int stains = 1 + draw(4);
        for (int k = 0; k < boards; k++) {
            t.append("board b").append((char) ('a' + k)).append(" ribs ").append(1 + draw(9));
            t.append(" zinc ").append(1 + draw(draw(2) == 0 ? 15 : 99)).append(";");
        }
        for (int k = 0; k < stains; k++) {
            t.append("stain s").append((char) ('a' + k)).append(" deep ").append(draw(draw(2) == 0 ? 12 : 50));
            t.append(" stuff ").append(draw(10)).append(";");
        }
        t.append("hearer h sin ").append(draw(10)).append(" ear 3;hearer i sin 2 ear ").append(draw(10)).append(";");
        t.append("out ").append(one("ribs-stuff/2", "1+zinc%3", "if(bone=1,1,ribs)", "deep/4+1", "rub", "max(1,ribs-stuff)+water/9")).append(";");
        t.append("wear ").append(one("0", "1", "rub%2", "if(deep>5,2,0)", "stuff/3", "9-ribs")).append(";");
        t.append("saved ").append(one("came>sin", "ear>2 and deep=0", "not zinc>4")).append(";");
        t.append("slide ").append(one("came<ear", "week%3=0", "[zinc=0 or deep<2]and sin>1")).append(";");
        t.append("picks ").append(one("zinc", "ribs*10+zinc", "week%2*ribs", "0-stuff*ribs")).append(";");
        return t.append("water ").append(draw(100)).append(";").toString();
    }

    private static void strokesAsSermons(ZincSermon x) {
        for (int k = 0; k < 4; k++) {
            int board = draw(x.has(0));
            int stain = draw(x.has(1));
            int n = 1 + draw(40);
            int left = x.strokes(board, stain, n);
            int deep = x.stain(stain, 0);
            if (deep > 0) {
                Check.due("came out by a sermon", x.sermon(board, stain, n), deep - left);
                Check.due("left behind a sermon", x.stain(stain, 0), left);
                x.undo();
            }
        }
    }

    private static void neededAsStrokes(ZincSermon x) {
        for (int board = 0; board < x.has(0); board++) {
            for (int stain = 0; stain < x.has(1); stain++) {
                int n = 0;
                while (n < 41 && x.strokes(board, stain, n) > 0) {
                    n++;
                }
                int needed = x.needed(board, stain, 0);
                if (n <= 40) {
                    Check.due("needed", needed, n);
                } else {
                    Check.due("needed above 40", needed == -1 || needed > 40, true);
                }
                if (n > 0 && n <= 40) {
                    x.sermon(board, stain, n);
                    int zinc = x.board(board, 1);
                    x.undo();
                    Check.due("safe", x.needed(board, stain, 1), zinc > 0 ? 1 : 0);
                }
            }
        }
    }

    private static void bestByNeeded(ZincSermon x) {
        for (int stain = 0; stain < x.has(1); stain++) {
            int best = -1;
            for (int board = 0; board < x.has(0); board++) {
                int n = x.needed(board, stain, 0);
                if (n >= 0 && (best < 0 || n < x.needed(best, stain, 0))) {
                    best = board;
                }
            }
            Check.due("best", x.best(stain), best);
        }
    }

    /** All rows of boards are told by numbers of as many digits as there are stains. */
    private static void matchByNeeded(ZincSermon x) {
        int boards = x.has(0);
        int stains = x.has(1);
        int rows = 1;
        for (int k = 0; k < stains; k++) {
            rows *= boards;
        }
        int fewest = -1;
        int[] best = new int[stains];
        for (int row = 0; row < rows; row++) {
            int[] tried = new int[stains];
            int rest = row;
            for (int stain = stains - 1; stain >= 0; stain--) {
                tried[stain] = rest % boards;
                rest /= boards;
            }
            int sum = sumOf(x, tried);
            if (sum >= 0 && (fewest < 0 || sum < fewest)) {
                fewest = sum;
                best = tried;
            }
        }
        Check.due("match(NONE)", x.match(-1), fewest);
        for (int stain = 0; stain < stains; stain++) {
            Check.due("match", x.match(stain), fewest < 0 || x.stain(stain, 0) == 0 ? -1 : best[stain]);
        }
    }

    private static int sumOf(ZincSermon x, int[] row) {
        int sum = 0;
        int taken = 0;
        for (int stain = 0; stain < row.length; stain++) {
            if (x.stain(stain, 0) > 0) {
                if ((taken >> row[stain] & 1) == 1 || x.needed(row[stain], stain, 1) != 1) {
                    return -1;
                }
                taken |= 1 << row[stain];
                sum += x.needed(row[stain], stain, 0);
            }
        }
        return sum;
    }

    private static int most;
    private static int fewest;
    private static String row;

    private static void headsByTrial(ZincSermon x) {
        for (int board = 0; board < x.has(0); board++) {
            most = 0;
            fewest = 0;
            row = "";
            // hearers change nothing in strokes, so sermons that are undone can stand for NEEDED of up to 40
            if (tryHeads(x, board, 0, 0, "")) {
                Check.due("heads", x.heads(board, 0), most);
                Check.due("heads' strokes", x.heads(board, 1), fewest);
                for (int k = 0; k < 6; k++) {
                    Check.due("heads' row", x.heads(board, 2 + k), k < row.length() ? row.charAt(k) - '0' : -1);
                }
            }
        }
    }

    /** False when more than the 40 strokes of a sermon would be needed. */
    private static boolean tryHeads(ZincSermon x, int board, int count, int sum, String tried) {
        if (count > most || count == most && sum < fewest) {
            most = count;
            fewest = sum;
            row = tried;
        }
        boolean whole = true;
        for (int stain = 0; stain < x.has(1); stain++) {
            if (x.stain(stain, 0) > 0 && tried.indexOf('0' + stain) < 0 && x.needed(board, stain, 1) == 1) {
                int n = x.needed(board, stain, 0);
                if (n > 40) {
                    whole = false;
                } else {
                    x.sermon(board, stain, n);
                    whole &= tryHeads(x, board, count + 1, sum + n, tried + stain);
                    x.undo();
                }
            }
        }
        return whole;
    }

    private static void aheadAsWeeks(ZincSermon x) {
        int n = 1 + draw(40);
        int[] deep = new int[x.has(1)];
        int[] zinc = new int[x.has(0)];
        int saved = x.saved(n);
        for (int k = 0; k < deep.length; k++) {
            deep[k] = x.later(k, n);
        }
        for (int k = 0; k < zinc.length; k++) {
            zinc[k] = x.worn(k, n);
        }
        int clean = x.clean();
        x.weeks(n);
        int left = x.has(5);
        for (int k = 0; k < deep.length; k++) {
            Check.due("later", deep[k], x.stain(k, 0));
        }
        for (int k = 0; k < zinc.length; k++) {
            Check.due("worn", zinc[k], x.board(k, 1));
        }
        Check.due("saved", saved, x.hearer(0, 2) + 2 * x.hearer(1, 2));
        Check.due("clean", clean >= 0 && clean <= n, left == 0);
        x.undo();
    }

    private static void whichByStrokes(ZincSermon x) {
        int board = draw(x.has(0));
        int n = 1 + draw(draw(2) == 0 ? 3 : 40);
        int left = x.strokes(board, draw(x.has(1)), n);
        int want = 0;
        for (int stain = 0; stain < x.has(1); stain++) {
            want |= x.strokes(board, stain, n) == left ? 1 << stain : 0;
        }
        Check.tape(x, board, n, left);
        Check.due("see", x.see(), 1);
        Check.due("which", x.which(), want);
        int at = 0;
        int fewestLeft = 99;
        for (int k = 1; k <= 40; k++) {
            int alike = 0;
            for (int value = 0; value < 100; value++) {
                int same = 0;
                for (int stain = 0; stain < x.has(1); stain++) {
                    same += (want >> stain & 1) == 1 && x.strokes(board, stain, k) == value ? 1 : 0;
                }
                alike = Math.max(alike, same);
            }
            if (alike < fewestLeft) {
                fewestLeft = alike;
                at = k;
            }
        }
        Check.due("tells", x.tells(board, 0), at);
        Check.due("tells, left", x.tells(board, 1), fewestLeft);
    }
}
