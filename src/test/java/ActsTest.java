/** Promises 23 to 31: ACTS, undo, the seed, what is KEPT. */
public final class ActsTest {
    private static final String TEXT = "board a ribs 3 zinc 20;board b ribs 2 zinc 9;"
            + "stain s deep 10 stuff 0;stain t deep 4 stuff 1;hearer h sin 3 ear 0;hearer i sin 1 ear 4;"
            + "out 1;wear 2;saved came>sin;slide came<2;dry 50;water 7;";
    private static final int[] WRONG = {-1, 41, Integer.MAX_VALUE, Integer.MIN_VALUE};

    public static void main(String[] args) {
        weeks();
        lastWeeks();
        chance();
        sermon();
        slidesOfSermons();
        soil();
        mend();
        pour();
        undo();
        seed();
        kept();
        keptAndUndone();
        Check.end();
    }

    private static void weeks() {
        ZincSermon x = Check.chapel(TEXT);
        Check.due("weeks(3)", x.weeks(3), 9);
        Check.due("stain 0", x.stain(0, 0), 1);
        Check.due("stain 1", x.stain(1, 0), 4);
        Check.due("one ACT", x.has(10), 1);
        Check.due("no DRAW", x.has(11), 1);
        Check.due("weeks(40)", x.weeks(40), 5);
        Check.due("week", x.has(3), 43);
        for (int n : WRONG) {
            Check.due("weeks(" + n + ")", x.weeks(n), -1);
            Check.due("chance(" + n + ")", x.chance(n), -1);
        }
        Check.due("weeks(0)", x.weeks(0), -1);
        Check.due("chance(0)", x.chance(0), -1);
        Check.due("status(2)", x.status(2), 10);
        Check.due("week", x.has(3), 43);
        Check.due("ACTS", x.has(10), 2);
        Check.due("no DRAW by what is refused", x.has(11), 1);
    }

    private static void lastWeeks() {
        ZincSermon x = Check.chapel("");
        for (int k = 0; k < 24; k++) {
            x.weeks(40);
        }
        Check.due("weeks(40) at 960", x.weeks(40), -1);
        Check.due("chance(40) at 960", x.chance(40), -1);
        Check.due("weeks(39) at 960", x.weeks(39), 0);
        Check.due("week", x.has(3), 999);
        Check.due("weeks(1) at 999", x.weeks(1), -1);
        Check.due("status(2)", x.status(2), 3);
        Check.due("undo()", x.undo(), true);
        Check.due("chance(39) at 960", x.chance(39), 0);
        Check.due("week", x.has(3), 999);
    }

    private static void chance() {
        ZincSermon x = Check.chapel(TEXT);
        x.seed(12345);
        long seed = 12345;
        int droughts = 0;
        for (int k = 0; k < 10; k++) {
            seed = (1103515245L * seed + 12345L) % (1L << 31);
            droughts += seed / 64 % 100 < 50 ? 1 : 0;
        }
        Check.due("chance(10)", x.chance(10), droughts);
        Check.due("the seed", x.has(11), seed);
        Check.due("one ACT", x.has(10), 1);
        Check.due("SERMONS in the other WEEKS", x.has(8), Math.min(6, 10 - droughts));
        Check.due("week", x.has(3), 10);
        Check.due("undo()", x.undo(), true);
        Check.due("the seed stays", x.has(11), seed);
        Check.due("week", x.has(3), 0);
        dryToTheBrim();
        x = Check.chapel("board a ribs 3 zinc 20;stain s deep 9 stuff 3;hearer h sin 0 ear 0;saved all;"
                + "slide came+ribs+deep+stuff+zinc=0 and week=3 and water=5;dry 100;");
        Check.due("chance(3), dry 100", x.chance(3), 3);
        Check.due("no SERMON", x.stain(0, 0), 9);
        Check.due("nothing is KEPT", x.has(8), 0);
        x.sermon(0, 0, 1);
        Check.due("saved", x.hearer(0, 2), 1);
        x.pour(5);
        Check.due("chance(1), dry 100", x.chance(1), 1);
        Check.due("slid back in a DROUGHT", x.hearer(0, 2), 0);
        x = Check.chapel("board a ribs 3 zinc 20;stain s deep 9 stuff 0;");
        Check.due("chance(3), dry 0", x.chance(3), 0);
        Check.due("all came out", x.stain(0, 0), 0);
        Check.due("DRAWS all the same", x.has(11) != 1, true);
    }

    /** A DRAW of dry itself is no DROUGHT; without dry no DRAW is one. */
    private static void dryToTheBrim() {
        for (int seed = 0; seed < 3000; seed++) {
            int drawn = (int) ((1103515245L * seed + 12345L) % (1L << 31) / 64 % 100);
            if (seed < 20 || drawn == 0) {
                ZincSermon x = Check.chapel("dry " + drawn + ";");
                x.seed(seed);
                Check.due("dry " + drawn, x.chance(1), 0);
                x = Check.chapel("dry " + (drawn + 1) + ";");
                x.seed(seed);
                Check.due("dry " + (drawn + 1), x.chance(1), 1);
            }
            if (drawn == 0) {
                ZincSermon x = Check.chapel("");
                x.seed(seed);
                Check.due("without dry", x.chance(1), 0);
            }
        }
    }

    private static void sermon() {
        ZincSermon x = Check.chapel(TEXT);
        Check.due("sermon", x.sermon(1, 0, 2), 2);
        Check.due("i is saved", x.hearer(1, 2), 1);
        Check.due("h is not", x.hearer(0, 2), 0);
        Check.due("zinc", x.board(1, 1), 5);
        Check.due("week", x.has(3), 0);
        Check.due("sermon till nothing is left", x.sermon(0, 0, 40), 8);
        Check.due("zinc by 8 strokes", x.board(0, 1), 4);
        Check.due("sermon of nothing", x.sermon(0, 0, 1), -1);
        Check.due("sermon of 0", x.sermon(0, 1, 0), -1);
        for (int n : WRONG) {
            Check.due("sermon of " + n, x.sermon(0, 1, n), -1);
            Check.due("sermon on " + n, x.sermon(n, 1, 1), -1);
            Check.due("sermon about " + n, x.sermon(0, n, 1), -1);
        }
        Check.due("sermon on none", x.sermon(2, 1, 1), -1);
        Check.due("sermon about none", x.sermon(0, 2, 1), -1);
        Check.due("status(3)", x.status(3), 16);
        Check.due("ACTS", x.has(10), 2);
        Check.due("KEPT", x.has(8), 2);
        int[] wants = {0, 0, 0, 8};
        for (int what = 0; what < 4; what++) {
            Check.due("kept(1, " + what + ")", x.kept(1, what), wants[what]);
        }
        x = Check.chapel("board a ribs 3 zinc 20;stain s deep 9 stuff 0;out 0;");
        Check.due("sermon by which nothing comes", x.sermon(0, 0, 40), 0);
        Check.due("it is KEPT", x.kept(0, 3), 0);
    }

    /** Who was saved by an ACT was saved ahead of the WEEK; who is saved in it doesn't slide in it. */
    private static void slidesOfSermons() {
        ZincSermon x = Check.chapel("board a ribs 1 zinc 20;stain s deep 9 stuff 0;hearer h sin 0 ear 0;hearer i sin 1 ear 0;"
                + "saved came>sin*5;slide all;");
        x.sermon(0, 0, 1);
        Check.due("h is saved", x.hearer(0, 2), 1);
        x.weeks(1);
        Check.due("h slides", x.hearer(0, 2), 0);
        x.weeks(1);
        Check.due("h is saved anew", x.hearer(0, 2), 1);
        x.weeks(1);
        Check.due("h slides anew", x.hearer(0, 2), 0);
    }

    private static void soil() {
        ZincSermon x = Check.chapel(TEXT);
        Check.due("soil", x.soil(0, 5), 15);
        Check.due("soil 99 at most", x.soil(0, 99), 99);
        Check.due("soil 99", x.soil(0, 1), -1);
        Check.due("soil by 0", x.soil(1, 0), -1);
        Check.due("soil by 100", x.soil(1, 100), -1);
        Check.due("soil by MAX", x.soil(1, Integer.MAX_VALUE), -1);
        Check.due("soil of none", x.soil(2, 1), -1);
        Check.due("soil of none", x.soil(-1, 1), -1);
        Check.due("status(3)", x.status(3), 6);
        Check.due("stain 1", x.stain(1, 0), 4);
        Check.due("ACTS", x.has(10), 2);
        x.undo();
        Check.due("undone", x.stain(0, 0), 15);
    }

    private static void mend() {
        ZincSermon x = Check.chapel(TEXT);
        Check.due("mend as told", x.mend(0), false);
        x.sermon(0, 0, 2);
        Check.due("zinc", x.board(0, 1), 16);
        Check.due("mend", x.mend(0), true);
        Check.due("zinc", x.board(0, 1), 20);
        Check.due("mend anew", x.mend(0), false);
        Check.due("mend none", x.mend(2), false);
        Check.due("mend none", x.mend(-1), false);
        Check.due("mend none", x.mend(Integer.MAX_VALUE), false);
        Check.due("status(3)", x.status(3), 5);
        x.undo();
        Check.due("undone", x.board(0, 1), 16);
    }

    private static void pour() {
        ZincSermon x = Check.chapel(TEXT);
        Check.due("pour the same", x.pour(7), false);
        Check.due("pour 100", x.pour(100), false);
        Check.due("pour -1", x.pour(-1), false);
        Check.due("pour MIN", x.pour(Integer.MIN_VALUE), false);
        Check.due("status(3)", x.status(3), 4);
        Check.due("pour 99", x.pour(99), true);
        Check.due("pour 0", x.pour(0), true);
        Check.due("water", x.has(4), 0);
        x.undo();
        Check.due("water", x.has(4), 99);
        x.undo();
        Check.due("water", x.has(4), 7);
    }

    private static void undo() {
        ZincSermon x = Check.chapel(TEXT);
        Check.due("undo() of nothing", x.undo(), false);
        Check.due("status(4)", x.status(4), 1);
        long[] before = new long[26];
        for (int k = 0; k < 26; k++) {
            Check.due("ACTS", x.has(10), Math.min(20, k));
            before[k] = shown(x);
            if (k % 5 == 0) {
                x.weeks(2);
            } else if (k % 5 == 1) {
                x.soil(k % 2, 9);
            } else if (k % 5 == 2) {
                x.sermon(1, k % 2, 3);
            } else if (k % 5 == 3) {
                x.chance(1);
            } else {
                x.pour(k);
            }
        }
        Check.due("no ACT was refused", x.status(2) + x.status(3), 0);
        for (int k = 25; k > 5; k--) {
            Check.due("undo() " + k, x.undo(), true);
            Check.due("all as ahead of ACT " + k, shown(x), before[k]);
        }
        Check.due("undo() of the 21st", x.undo(), false);
        Check.due("all stays", shown(x), before[6]);
        Check.due("status(4)", x.status(4), 2);
    }

    /** All but the seed and the number of ACTS. */
    private static long shown(ZincSermon x) {
        long sum = 7;
        for (int what = 3; what < 10; what++) {
            sum = sum * 31 + x.has(what);
        }
        for (int k = 0; k < 2; k++) {
            sum = ((sum * 31 + x.board(k, 1)) * 31 + x.stain(k, 0)) * 31 + x.hearer(k, 2);
        }
        for (int k = 0; k < 40; k++) {
            for (int what = 0; what < 4; what++) {
                sum = sum * 31 + x.kept(k, what);
            }
        }
        return sum;
    }

    private static void seed() {
        ZincSermon x = Check.chapel(TEXT);
        Check.due("seed 0", x.seed(0), true);
        Check.due("the seed", x.has(11), 0);
        Check.due("seed MAX", x.seed(Integer.MAX_VALUE), true);
        Check.due("the seed", x.has(11), Integer.MAX_VALUE);
        x.chance(1);
        Check.due("a DRAW", x.has(11), (1103515245L * Integer.MAX_VALUE + 12345L) % (1L << 31));
        x.seed(5);
        Check.due("seed -1", x.seed(-1), false);
        Check.due("seed MIN", x.seed(Integer.MIN_VALUE), false);
        Check.due("the seed stays", x.has(11), 5);
        Check.due("status(5)", x.status(5), 2);
        Check.due("no ACT", x.has(10), 1);
    }

    private static void kept() {
        ZincSermon x = Check.chapel(TEXT);
        x.weeks(4);
        // s 10 > 7 > 4 > (of like ones the first) 1, then t 4 > 1.
        int[][] rows = {{0, 0, 0, 3}, {1, 0, 0, 3}, {2, 0, 0, 3}, {3, 0, 1, 3}};
        Check.due("has(8)", x.has(8), 4);
        for (int k = 0; k < 4; k++) {
            for (int what = 0; what < 4; what++) {
                Check.due("kept(" + k + ", " + what + ")", x.kept(k, what), rows[k][what]);
            }
            Check.due("kept(" + k + ", 4)", x.kept(k, 4), -1);
            Check.due("kept(" + k + ", -1)", x.kept(k, -1), -1);
        }
        Check.due("kept(4, 0)", x.kept(4, 0), -1);
        for (int k : WRONG) {
            Check.due("kept(" + k + ", 0)", x.kept(k, 0), -1);
        }
        Check.due("kept of none", new ZincSermon().kept(0, 0), -1);
    }

    /** Forty are told; undone ACTS bring back those that had gone. */
    private static void keptAndUndone() {
        ZincSermon x = Check.chapel("board a ribs 1 zinc 1;stain s deep 99 stuff 0;out 0;");
        for (int k = 0; k < 24; k++) {
            x.weeks(40);
        }
        for (int k = 0; k < 20; k++) {
            int week = 960 - 40 * k;
            Check.due("has(8)", x.has(8), 40);
            Check.due("the oldest", x.kept(0, 0), week - 40);
            Check.due("the latest", x.kept(39, 0), week - 1);
            Check.due("the 41st", x.kept(40, 0), -1);
            Check.due("undo()", x.undo(), true);
        }
        Check.due("week", x.has(3), 160);
        Check.due("the oldest", x.kept(0, 0), 120);
        Check.due("undo()", x.undo(), false);
        x.sermon(0, 0, 1);
        Check.due("one more", x.kept(39, 0), 160);
        Check.due("the oldest but one", x.kept(0, 0), 121);
        x.weeks(7);
        x.undo();
        x.undo();
        Check.due("the oldest", x.kept(0, 0), 120);
        Check.due("the latest", x.kept(39, 0), 159);
    }
}
