import java.util.function.IntUnaryOperator;

/** The boundary cases of promises 6 to 10: what there is. */
final class AskEdges {
    private static final int MAX = Integer.MAX_VALUE;
    private static final int MIN = Integer.MIN_VALUE;

    private AskEdges() {
    }

    static void run() {
        hasAtLeast();
        hasAtMost();
        hasOthers();
        letters();
        lettersBehind();
        lettersOfNone();
        boards();
        stains();
        hearers();
    }

    /** As many as there can be of all: 5 BOARDS (zinc 1), 6 STAINS (50 deep), 6 HEARERS; all is as told. */
    private static ZincSermon most() {
        StringBuilder text = new StringBuilder("water 99;saved all;");
        for (char c = 'a'; c < 'g'; c++) {
            text.append(c < 'f' ? "board b" + c + " ribs 1 zinc 1;" : "");
            text.append("stain s").append(c).append(" deep 50 stuff 9;hearer h").append(c).append(" sin 9 ear 9;");
        }
        return Check.chapel(text.toString());
    }

    private static void none(String call, IntUnaryOperator ask, int... wrong) {
        for (int k : wrong) {
            Check.due(call + " of " + k, ask.applyAsInt(k), -1);
        }
    }

    private static void hasAtLeast() {
        Check.promise(6, "How many there are: 0 BOARDS, 1 STAINS, 2 HEARERS, 3 WEEK, 4 water,");
        ZincSermon x = new ZincSermon();
        for (int what = 0; what <= 10; what++) {
            Check.due("has(" + what + ") of nothing", x.has(what), 0);
        }
        Check.due("has(11) of nothing", x.has(11), 1);
        x = most();
        int[] wants = {5, 6, 6, 0, 99, 6, 0, 0, 0, 0, 0, 1};
        for (int what = 0; what < wants.length; what++) {
            Check.due("has(" + what + ") at first", x.has(what), wants[what]);
        }
        x = Check.chapel("hearer h sin 1 ear 1;stain s deep 1 stuff 1;stain t deep 0 stuff 1;board b ribs 1 zinc 1;hearer i sin 1 ear 1;hearer j sin 1 ear 1;");
        Check.due("BOARDS", x.has(0), 1);
        Check.due("STAINS", x.has(1), 2);
        Check.due("HEARERS", x.has(2), 3);
        Check.due("STAINS of which something is left", x.has(5), 1);
    }

    private static void hasAtMost() {
        Check.promise(6, "5 STAINS of which something is left, 6 BOARDS without zinc, 7 who are saved, 8 told as KEPT, 9 rows SEEN, 10 ACTS that can be undone, 11 the seed.");
        ZincSermon x = most();
        for (int board = 0; board < 5; board++) {
            Check.due("BOARDS without zinc", x.has(6), board);
            x.sermon(board, 0, 1);
            Check.due("who are saved", x.has(7), 6);
            Check.due("told as KEPT", x.has(8), board + 1);
        }
        Check.due("all BOARDS without zinc", x.has(6), 5);
        for (int stain = 0; stain < 6; stain++) {
            Check.due("STAINS of which something is left", x.has(5), 6 - stain);
            x.sermon(0, stain, 40);
            x.sermon(0, stain, 10);
        }
        Check.due("nothing is left", x.has(5), 0);
        Check.due("told as KEPT", x.has(8), 17);
        for (int k = 0; k < 12; k++) {
            x.soil(0, 1);
            x.weeks(1);
            x.soil(0, 1);
            x.weeks(1);
        }
        Check.due("40 told as KEPT", x.has(8), 40);
        Check.due("WEEK", x.has(3), 24);
        Check.due("20 ACTS that can be undone", x.has(10), 20);
        Check.see(x, new int[] {0, 1, 0, 4, 40, 99});
        Check.due("rows SEEN", x.has(9), 2);
        Check.see(x, sixteen());
        Check.due("16 rows SEEN", x.has(9), 16);
        x.seed(MAX);
        Check.due("the seed", x.has(11), MAX);
        x.seed(0);
        Check.due("the seed 0", x.has(11), 0);
        Check.on(x, Check.sealed(3, 231, 0, 1, 0, 1, 0, 1, 0, 99, 0, 1, 0, 0, 1, 0, 1, 0, 0, 1));
        int[] wants = {5, 6, 6, 999, 0, 2, 2, 3, 0, 16, 0, 0};
        for (int what = 0; what < wants.length; what++) {
            Check.due("has(" + what + ") behind on()", x.has(what), wants[what]);
        }
    }

    private static int[] sixteen() {
        int[] rows = new int[48];
        for (int k = 0; k < 16; k++) {
            rows[3 * k + 1] = k + 1;
        }
        return rows;
    }

    private static void hasOthers() {
        Check.promise(6, "NONE for others.");
        none("has", new ZincSermon()::has, 12, 13, 255, MAX, -1, -2, MIN);
        ZincSermon x = most();
        none("has", x::has, 12, 13, 255, MAX, -1, -2, MIN);
        Check.unrefused(x);
    }

    private static void letters() {
        Check.promise(7, "Letter k (0 .. 5) of the NAME of a BOARD (kind 0), a STAIN (1), a HEARER (2): 1 .. 26;");
        ZincSermon x = Check.chapel("hearer yzabcd sin 1 ear 1;board abcdef ribs 1 zinc 1;stain ghijkl deep 1 stuff 1;board mnopqr ribs 1 zinc 1;"
                + "stain stuvwx deep 1 stuff 1;hearer zazaza sin 1 ear 1;");
        String[][] names = {{"abcdef", "mnopqr"}, {"ghijkl", "stuvwx"}, {"yzabcd", "zazaza"}};
        for (int kind = 0; kind < 3; kind++) {
            for (int which = 0; which < 2; which++) {
                for (int k = 0; k < 6; k++) {
                    Check.due("letter(" + kind + ", " + which + ", " + k + ")", x.letter(kind, which, k), names[kind][which].charAt(k) - 'a' + 1);
                }
            }
        }
        x = most();
        int[] last = {4, 5, 5};
        int[] first = {2, 19, 8};
        for (int kind = 0; kind < 3; kind++) {
            Check.due("the last one's first letter, kind " + kind, x.letter(kind, last[kind], 0), first[kind]);
            Check.due("the last one's second letter, kind " + kind, x.letter(kind, last[kind], 1), last[kind] + 1);
        }
    }

    private static void lettersBehind() {
        Check.promise(7, "0 behind it;");
        ZincSermon x = Check.chapel("board a ribs 1 zinc 1;stain zz deep 1 stuff 1;hearer abcde sin 1 ear 1;");
        int[] lengths = {1, 2, 5};
        for (int kind = 0; kind < 3; kind++) {
            for (int k = 0; k < 6; k++) {
                Check.due("letter(" + kind + ", 0, " + k + ") is there", x.letter(kind, 0, k) > 0, k < lengths[kind]);
            }
            Check.due("letter(" + kind + ", 0, 5)", x.letter(kind, 0, 5), 0);
        }
    }

    private static void lettersOfNone() {
        Check.promise(7, "NONE when there is none such.");
        ZincSermon x = Check.chapel("board a ribs 1 zinc 1;stain zz deep 1 stuff 1;hearer abcdef sin 1 ear 1;hearer b sin 1 ear 1;");
        none("letter by kind", kind -> x.letter(kind, 0, 0), 3, 4, MAX, -1, MIN);
        none("letter of a BOARD", which -> x.letter(0, which, 0), 1, 2, 5, 6, MAX, -1, MIN);
        none("letter of a STAIN", which -> x.letter(1, which, 0), 1, 2, 5, 6, MAX, -1, MIN);
        none("letter of a HEARER", which -> x.letter(2, which, 0), 2, 3, 5, 6, MAX, -1, MIN);
        none("letter by k", k -> x.letter(0, 0, k), 6, 7, MAX, -1, MIN);
        none("letter by k, of six", k -> x.letter(2, 0, k), 6, 7, MAX, -1, MIN);
        ZincSermon full = most();
        none("letter of the 6th BOARD", which -> full.letter(0, which, 0), 5, 6);
        none("letter of the 7th STAIN", which -> full.letter(1, which, 0), 6, 7);
        none("letter of the 7th HEARER", which -> full.letter(2, which, 0), 6, 7);
        Check.unrefused(x);
    }

    private static void boards() {
        Check.promise(8, "Of a BOARD: 0 ribs, 1 zinc. NONE when there is none such, or for others.");
        ZincSermon x = Check.chapel("board a ribs 1 zinc 99;board b ribs 9 zinc 1;stain s deep 9 stuff 1;stain t deep 9 stuff 1;stain u deep 9 stuff 1;");
        Check.due("board(0, 0)", x.board(0, 0), 1);
        Check.due("board(0, 1)", x.board(0, 1), 99);
        Check.due("board(1, 0)", x.board(1, 0), 9);
        Check.due("board(1, 1)", x.board(1, 1), 1);
        none("board, ribs", board -> x.board(board, 0), 2, 3, 5, MAX, -1, MIN);
        none("board, zinc", board -> x.board(board, 1), 2, 3, 5, MAX, -1, MIN);
        none("board by what", what -> x.board(0, what), 2, 3, MAX, -1, MIN);
        Check.due("board(0, 0) of nothing", new ZincSermon().board(0, 0), -1);
        Check.due("board(4, 0) of five", most().board(4, 0), 1);
        Check.due("board(5, 0) of five", most().board(5, 0), -1);
        Check.unrefused(x);
        x.sermon(1, 0, 9);
        Check.due("worn through", x.board(1, 1), 0);
        Check.due("ribs stay", x.board(1, 0), 9);
    }

    private static void stains() {
        Check.promise(9, "Of a STAIN: 0 how deep, 1 stuff. NONE when there is none such, or for others.");
        ZincSermon x = Check.chapel("board a ribs 1 zinc 99;stain s deep 99 stuff 0;stain t deep 0 stuff 9;hearer h sin 1 ear 1;hearer i sin 1 ear 1;hearer j sin 1 ear 1;");
        Check.due("stain(0, 0)", x.stain(0, 0), 99);
        Check.due("stain(0, 1)", x.stain(0, 1), 0);
        Check.due("stain(1, 0)", x.stain(1, 0), 0);
        Check.due("stain(1, 1)", x.stain(1, 1), 9);
        none("stain, deep", stain -> x.stain(stain, 0), 2, 3, 6, MAX, -1, MIN);
        none("stain, stuff", stain -> x.stain(stain, 1), 2, 3, 6, MAX, -1, MIN);
        none("stain by what", what -> x.stain(0, what), 2, 3, MAX, -1, MIN);
        Check.due("stain(0, 0) of nothing", new ZincSermon().stain(0, 0), -1);
        Check.due("stain(5, 0) of six", most().stain(5, 0), 50);
        Check.due("stain(6, 0) of six", most().stain(6, 0), -1);
        Check.unrefused(x);
        x.sermon(0, 0, 40);
        Check.due("behind 40 strokes", x.stain(0, 0), 59);
        Check.due("stuff stays", x.stain(0, 1), 0);
    }

    private static void hearers() {
        Check.promise(10, "Of a HEARER: 0 sin, 1 ear, 2 whether saved. NONE when there is none such, or for others.");
        ZincSermon x = Check.chapel("board a ribs 1 zinc 99;stain s deep 99 stuff 0;stain t deep 9 stuff 0;stain u deep 9 stuff 0;"
                + "hearer h sin 0 ear 9;hearer i sin 9 ear 0;saved sin=9;");
        int[][] wants = {{0, 9, 0}, {9, 0, 0}};
        for (int hearer = 0; hearer < 2; hearer++) {
            for (int what = 0; what < 3; what++) {
                Check.due("hearer(" + hearer + ", " + what + ")", x.hearer(hearer, what), wants[hearer][what]);
            }
        }
        for (int what = 0; what < 3; what++) {
            int asked = what;
            none("hearer, what " + what, hearer -> x.hearer(hearer, asked), 2, 3, 6, 31, 32, MAX, -1, MIN);
        }
        none("hearer by what", what -> x.hearer(0, what), 3, 4, MAX, -1, MIN);
        Check.due("hearer(0, 0) of nothing", new ZincSermon().hearer(0, 0), -1);
        Check.due("hearer(5, 0) of six", most().hearer(5, 0), 9);
        Check.due("hearer(6, 0) of six", most().hearer(6, 0), -1);
        Check.unrefused(x);
        x.weeks(1);
        Check.due("hearer(0, 2) then", x.hearer(0, 2), 0);
        Check.due("hearer(1, 2) then", x.hearer(1, 2), 1);
        ZincSermon all = most();
        all.weeks(1);
        for (int hearer = 0; hearer < 6; hearer++) {
            Check.due("hearer(" + hearer + ", 2) of six", all.hearer(hearer, 2), 1);
        }
    }
}
