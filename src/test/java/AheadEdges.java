import java.util.function.IntUnaryOperator;

/** The boundary cases of promises 16 to 19 and of Terms III: what is AHEAD. */
final class AheadEdges {
    private static final int MAX = Integer.MAX_VALUE;
    private static final int MIN = Integer.MIN_VALUE;
    /** One comes out each WEEK; h is saved in even ones and lost in odd ones, i is saved by the last of s. */
    private static final String TEXT = "board a ribs 1 zinc 50;board b ribs 2 zinc 9;stain s deep 42 stuff 0;stain n deep 0 stuff 0;"
            + "hearer h sin 0 ear 0;hearer i sin 1 ear 0;saved sin=0 or deep=0;slide sin=0;dry 100;";

    private AheadEdges() {
    }

    static void run() {
        withoutDraws();
        notBeyondTheLastWeek();
        later();
        laterOfNone();
        worn();
        wornOfNone();
        saved();
        savedOfNone();
        clean();
        notClean();
    }

    private static void none(String call, IntUnaryOperator ask, int... wrong) {
        for (int k : wrong) {
            Check.due(call + " of " + k, ask.applyAsInt(k), -1);
        }
    }

    /** At a WEEK, all else as told. */
    private static ZincSermon at(int week) {
        ZincSermon x = Check.chapel(TEXT);
        Check.on(x, Check.sealed(week / 256, week % 256, 0, 50, 9, 42, 0, 0, 0));
        return x;
    }

    private static void withoutDraws() {
        Check.terms("III. AHEAD are WEEKS as they come from now on without DRAWS");
        ZincSermon x = Check.chapel(TEXT);
        long before = Check.all(x);
        Check.due("later(0, 40), dry 100", x.later(0, 40), 2);
        Check.due("worn(0, 40), dry 100", x.worn(0, 40), 10);
        Check.due("saved(1), dry 100", x.saved(1), 1);
        Check.due("clean(), dry 100", x.clean(), -1);
        Check.due("all stays, the seed too", Check.all(x), before);
        // From now on: by what has been done, and by WEEKS that have gone.
        x.weeks(2);
        Check.due("later(0, 40) from WEEK 2", x.later(0, 40), 0);
        Check.due("later(0, 39) from WEEK 2", x.later(0, 39), 1);
        Check.due("saved(1) from WEEK 2", x.saved(1), 1);
        x.soil(1, 60);
        Check.due("later(1, 1) of what is deeper now", x.later(1, 1), 59);
        Check.due("later(0, 1) of what is not gone at", x.later(0, 1), 40);
        ZincSermon y = Check.chapel("board a ribs 1 zinc 50;stain s deep 99 stuff 0;out week*10+water;water 3;");
        y.weeks(1);
        y.pour(0);
        Check.due("by the WEEK and the water now", y.later(0, 1), 86);
        Check.due("by the WEEKS then", y.later(0, 2), 66);
    }

    private static void notBeyondTheLastWeek() {
        Check.terms("(40 at most, not beyond WEEK 999).");
        int[] weeks = {0, 958, 959, 960, 961, 998, 999};
        for (int week : weeks) {
            ZincSermon x = at(week);
            int most = Math.min(40, 999 - week);
            Check.due("later, " + most + " from WEEK " + week, x.later(0, most), 42 - most);
            Check.due("later, one more from WEEK " + week, x.later(0, most + 1), -1);
            Check.due("worn, " + most + " from WEEK " + week, x.worn(0, most), 50 - most);
            Check.due("worn, one more from WEEK " + week, x.worn(0, most + 1), -1);
            Check.due("saved, " + most + " from WEEK " + week, x.saved(most), most % 2);
            Check.due("saved, one more from WEEK " + week, x.saved(most + 1), -1);
        }
    }

    private static void later() {
        Check.promise(16, "Behind n WEEKS AHEAD (0 .. 40) how deep a STAIN is;");
        ZincSermon x = Check.chapel(TEXT);
        int[] some = {0, 1, 2, 39, 40};
        for (int n : some) {
            Check.due("later(0, " + n + ")", x.later(0, n), 42 - n);
            Check.due("later(1, " + n + ") of nothing", x.later(1, n), 0);
        }
        Check.due("later(0, 40) without BOARDS", Check.chapel("stain s deep 99 stuff 0;").later(0, 40), 99);
        Check.due("later(0, 40) of what is out", Check.chapel("board b ribs 9 zinc 9;stain s deep 99 stuff 0;").later(0, 40), 0);
    }

    private static void laterOfNone() {
        Check.promise(16, "NONE when there is none such, or n can't be.");
        ZincSermon x = Check.chapel(TEXT);
        none("later(stain, 0)", stain -> x.later(stain, 0), 2, 3, 6, MAX, -1, MIN);
        none("later(stain, 1)", stain -> x.later(stain, 1), 2, 3, 6, MAX, -1, MIN);
        none("later(0, n)", n -> x.later(0, n), 41, 42, MAX, -1, MIN);
        none("later(1, n)", n -> x.later(1, n), 41, 42, MAX, -1, MIN);
        none("later(stain, 0) of nothing", stain -> new ZincSermon().later(stain, 0), 0, 1, -1);
        none("later(0, n) at WEEK 999", n -> at(999).later(0, n), 1, 2, 40, 41, -1);
        Check.due("later(0, 0) at WEEK 999", at(999).later(0, 0), 42);
        Check.unrefused(x);
    }

    private static void worn() {
        Check.promise(17, "Behind n WEEKS AHEAD (0 .. 40) how much zinc a BOARD has;");
        ZincSermon x = Check.chapel(TEXT);
        int[] some = {0, 1, 2, 39, 40};
        for (int n : some) {
            Check.due("worn(0, " + n + ")", x.worn(0, n), 50 - n);
            Check.due("worn(1, " + n + ") of another one", x.worn(1, n), 9);
        }
        Check.due("worn(0, 40), 0 at least", Check.chapel("board a ribs 9 zinc 5;stain s deep 99 stuff 0;").worn(0, 40), 0);
        Check.due("worn(0, 40) without STAINS", Check.chapel("board a ribs 9 zinc 5;").worn(0, 40), 5);
    }

    private static void wornOfNone() {
        Check.promise(17, "NONE when there is none such, or n can't be.");
        ZincSermon x = Check.chapel(TEXT);
        none("worn(board, 0)", board -> x.worn(board, 0), 2, 3, 5, MAX, -1, MIN);
        none("worn(board, 1)", board -> x.worn(board, 1), 2, 3, 5, MAX, -1, MIN);
        none("worn(0, n)", n -> x.worn(0, n), 41, 42, MAX, -1, MIN);
        none("worn(0, 0) of nothing", n -> new ZincSermon().worn(n, 0), 0, 1, -1);
        none("worn(0, n) at WEEK 999", n -> at(999).worn(0, n), 1, 2, 40, 41, -1);
        Check.due("worn(0, 0) at WEEK 999", at(999).worn(0, 0), 50);
        Check.unrefused(x);
    }

    private static void saved() {
        Check.promise(18, "Who is saved behind n WEEKS AHEAD (0 .. 40), as bits;");
        ZincSermon x = Check.chapel(TEXT);
        int[] some = {0, 1, 2, 3, 38, 39, 40};
        for (int n : some) {
            Check.due("saved(" + n + ")", x.saved(n), n % 2);
        }
        x.weeks(2);
        Check.due("saved(39) from WEEK 2", x.saved(39), 1);
        Check.due("saved(40) from WEEK 2: i by the last of s", x.saved(40), 2);
        StringBuilder six = new StringBuilder("board a ribs 1 zinc 1;stain s deep 9 stuff 0;saved sin>week;");
        for (int k = 0; k < 6; k++) {
            six.append("hearer h").append((char) ('a' + k)).append(" sin ").append(k).append(" ear 0;");
        }
        Check.due("saved(0) of six", Check.chapel(six.toString()).saved(0), 0);
        Check.due("saved(1) of six", Check.chapel(six.toString()).saved(1), 62);
        Check.due("saved(1) of all six", Check.chapel(six.toString().replace("sin>week", "all")).saved(1), 63);
        Check.due("saved(40) without HEARERS", Check.chapel("board a ribs 1 zinc 1;stain s deep 9 stuff 0;saved all;").saved(40), 0);
    }

    private static void savedOfNone() {
        Check.promise(18, "NONE when n can't be.");
        ZincSermon x = Check.chapel(TEXT);
        none("saved", x::saved, 41, 42, MAX, -1, MIN);
        none("saved of nothing", new ZincSermon()::saved, 41, -1);
        none("saved at WEEK 999", at(999)::saved, 1, 2, 40, 41, -1);
        none("saved at WEEK 998", at(998)::saved, 2, 3, 40, 41, -1);
        Check.due("saved(0) at WEEK 999", at(999).saved(0), 0);
        Check.unrefused(x);
    }

    /** One comes out each WEEK. */
    private static ZincSermon deep(int deep) {
        return Check.chapel("board a ribs 1 zinc 5;stain s deep " + deep + " stuff 0;stain n deep 0 stuff 0;");
    }

    private static void clean() {
        Check.promise(19, "Behind how many WEEKS AHEAD (0: now; 40 at most) nothing is left of any STAIN;");
        int[] some = {0, 1, 2, 39, 40};
        for (int n : some) {
            Check.due("clean() of " + n, deep(n).clean(), n);
        }
        Check.due("clean() without STAINS", Check.chapel("board a ribs 1 zinc 5;").clean(), 0);
        Check.due("clean() of nothing", new ZincSermon().clean(), 0);
        Check.due("clean() of two", Check.chapel("board a ribs 1 zinc 5;stain s deep 3 stuff 0;stain t deep 4 stuff 0;").clean(), 7);
        ZincSermon x = Check.chapel(TEXT);
        x.weeks(2);
        Check.due("clean() from WEEK 2", x.clean(), 40);
        x.weeks(39);
        Check.due("clean() from WEEK 41", x.clean(), 1);
        x.weeks(1);
        Check.due("clean() now", x.clean(), 0);
        x.soil(1, 1);
        Check.due("clean() of what is soiled", x.clean(), 1);
    }

    private static void notClean() {
        Check.promise(19, "NONE when it is not so.");
        Check.due("clean() of 41", deep(41).clean(), -1);
        Check.due("clean() of 99", deep(99).clean(), -1);
        Check.due("clean() never", Check.chapel("board a ribs 1 zinc 5;stain s deep 1 stuff 0;out 0;").clean(), -1);
        Check.due("clean() without BOARDS", Check.chapel("stain s deep 1 stuff 0;").clean(), -1);
        // Not beyond WEEK 999.
        ZincSermon x = deep(2);
        Check.on(x, Check.sealed(3, 229, 0, 5, 2, 0));
        Check.due("clean() in 2 from WEEK 997", x.clean(), 2);
        Check.on(x, Check.sealed(3, 230, 0, 5, 2, 0));
        Check.due("clean() in 2 from WEEK 998", x.clean(), -1);
        Check.on(x, Check.sealed(3, 230, 0, 5, 1, 0));
        Check.due("clean() in 1 from WEEK 998", x.clean(), 1);
        Check.on(x, Check.sealed(3, 231, 0, 5, 1, 0));
        Check.due("clean() in 1 from WEEK 999", x.clean(), -1);
        Check.on(x, Check.sealed(3, 231, 0, 5, 0, 0));
        Check.due("clean() at WEEK 999", x.clean(), 0);
        Check.unrefused(x);
    }
}
