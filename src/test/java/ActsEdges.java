import java.util.function.Predicate;
import java.util.function.ToIntFunction;

/** The boundary cases of promises 23 to 31: ACTS, undo, the seed, what is KEPT. */
final class ActsEdges {
    private static final int MAX = Integer.MAX_VALUE;
    private static final int MIN = Integer.MIN_VALUE;
    /** One comes out by a stroke and 2 zinc go; s is gone at on a. */
    private static final String TEXT = "board a ribs 3 zinc 20;board b ribs 2 zinc 9;"
            + "stain s deep 90 stuff 0;stain t deep 4 stuff 1;stain n deep 0 stuff 2;hearer h sin 3 ear 0;hearer i sin 1 ear 4;"
            + "wear 2;saved came>sin;slide came<2;dry 100;water 7;";

    private ActsEdges() {
    }

    static void run() {
        weeks();
        weeksWithoutDraws();
        weeksThatCannotBe();
        chance();
        chanceIsOneAct();
        chanceThatCannotBe();
        sermon();
        sermonThatCannotBe();
        soil();
        soilThatCannotBe();
        mend();
        mendThatCannotBe();
        pour();
        pourThatCannotBe();
        undo();
        undoOfEachAct();
        butTheSeed();
        noneCanBeUndone();
        ringOfTwenty();
        seed();
        seedBelowZero();
        kept();
        keptOfNone();
        keptComesBack();
        manyCalls();
    }

    private static ZincSermon fresh() {
        return Check.chapel(TEXT);
    }

    /** At a WEEK, all else as told. */
    private static ZincSermon at(int week) {
        ZincSermon x = fresh();
        Check.on(x, Check.sealed(week / 256, week % 256, 7, 20, 9, 90, 4, 0, 0, 0));
        return x;
    }

    private static void weeks() {
        Check.promise(23, "n WEEKS go by (1 .. 40),", "how much came out in all;");
        ZincSermon x = fresh();
        Check.due("weeks(1)", x.weeks(1), 3);
        Check.due("WEEK", x.has(3), 1);
        Check.due("weeks(2)", x.weeks(2), 6);
        Check.due("WEEK", x.has(3), 3);
        Check.due("what is left", x.stain(0, 0), 81);
        Check.due("weeks(40)", x.weeks(40), 85);
        Check.due("WEEK", x.has(3), 43);
        Check.due("nothing is left", x.has(5), 0);
        Check.due("weeks(40) of nothing", x.weeks(40), 0);
        Check.due("WEEK", x.has(3), 83);
        Check.due("ACTS", x.has(10), 4);
        Check.due("weeks(40) of a new object", new ZincSermon().weeks(40), 0);
    }

    private static void weeksWithoutDraws() {
        Check.promise(23, "without DRAWS:");
        ZincSermon x = fresh();
        x.seed(5);
        Check.due("weeks(40), dry 100", x.weeks(40), 94);
        Check.due("the seed", x.has(11), 5);
    }

    private static void weeksThatCannotBe() {
        Check.promise(23, "NONE, refused (2), when it can't be (beyond WEEK 999).");
        int[] wrong = {0, -1, 41, 42, 999, MAX, MIN};
        for (int n : wrong) {
            Check.none("weeks(" + n + ")", fresh(), 2, x -> x.weeks(n));
        }
        beyond("weeks", 40, (x, n) -> x.weeks(n));
    }

    private interface Going {
        int go(ZincSermon x, int n);
    }

    private static void beyond(String call, int most, Going going) {
        int[] weeks = {959, 960, 961, 997, 998, 999};
        for (int week : weeks) {
            int left = 999 - week;
            for (int n = left + 1; n <= most; n += Math.max(1, most - left - 1)) {
                int more = n;
                Check.none(call + "(" + n + ") at WEEK " + week, at(week), 2, x -> going.go(x, more));
            }
            if (left > 0) {
                ZincSermon x = at(week);
                Check.due(call + "(" + left + ") at WEEK " + week, going.go(x, left) >= 0, true);
                Check.due("WEEK", x.has(3), 999);
                Check.unrefused(x);
            }
        }
    }

    private static void chance() {
        Check.promise(24, "n WEEKS by the seed (1 .. 40),", "how many DROUGHTS;");
        ZincSermon x = Check.chapel(TEXT + "dry 50;");
        x.seed(12345);
        long seed = 12345;
        int droughts = 0;
        for (int k = 0; k < 40; k++) {
            seed = (1103515245L * seed + 12345L) % (1L << 31);
            droughts += seed / 64 % 100 < 50 ? 1 : 0;
        }
        Check.due("chance(40), dry 50", x.chance(40), droughts);
        Check.due("some of both", droughts > 0 && droughts < 40, true);
        Check.due("the seed", x.has(11), seed);
        Check.due("WEEK", x.has(3), 40);
        Check.due("chance(1), dry 100", fresh().chance(1), 1);
        Check.due("chance(40), dry 100", fresh().chance(40), 40);
        Check.due("chance(1), dry 0", Check.chapel(TEXT + "dry 0;").chance(1), 0);
        x = Check.chapel(TEXT + "dry 0;");
        Check.due("chance(40), dry 0", x.chance(40), 0);
        Check.due("SERMONS as in weeks(40)", x.has(5), 0);
    }

    private static void chanceIsOneAct() {
        Check.promise(24, "one ACT:");
        ZincSermon x = fresh();
        long before = Check.all(x);
        x.chance(40);
        Check.due("ACTS", x.has(10), 1);
        Check.due("undo()", x.undo(), true);
        Check.due("WEEK", x.has(3), 0);
        x.seed(1);
        Check.due("all is as it was", Check.all(x), before);
        Check.due("no ACT more", x.undo(), false);
    }

    private static void chanceThatCannotBe() {
        Check.promise(24, "NONE, refused (2), when it can't be.");
        int[] wrong = {0, -1, 41, 42, 999, MAX, MIN};
        for (int n : wrong) {
            Check.none("chance(" + n + ")", fresh(), 2, x -> x.chance(n));
        }
        beyond("chance", 40, (x, n) -> x.chance(n));
    }

    private static void sermon() {
        Check.promise(25, "A SERMON: how much came out;");
        ZincSermon x = fresh();
        Check.due("sermon(1, 0, 1)", x.sermon(1, 0, 1), 1);
        Check.due("deep", x.stain(0, 0), 89);
        Check.due("zinc", x.board(1, 1), 7);
        Check.due("WEEK", x.has(3), 0);
        Check.due("nobody is saved by 1", x.has(7), 0);
        Check.due("sermon(0, 0, 40)", x.sermon(0, 0, 40), 40);
        Check.due("both are saved by 40", x.has(7), 2);
        Check.due("zinc", x.board(0, 1), 0);
        Check.due("sermon(0, 1, 40) of 4", x.sermon(0, 1, 40), 4);
        Check.due("ACTS", x.has(10), 3);
        Check.due("KEPT", x.has(8), 3);
        x = Check.chapel(TEXT + "out 0;");
        Check.due("sermon(0, 0, 40), out 0", x.sermon(0, 0, 40), 0);
        Check.due("it is an ACT", x.has(10), 1);
        Check.due("the last BOARD and STAIN", x.sermon(1, 1, 1), 0);
        Check.unrefused(x);
    }

    private static void sermonThatCannotBe() {
        Check.promise(25, "NONE, refused (3), when nothing of the STAIN is left, there are none such, or n can't be.");
        Check.none("sermon(0, 2, 1) of nothing", fresh(), 3, x -> x.sermon(0, 2, 1));
        ZincSermon out = fresh();
        out.sermon(0, 1, 4);
        Check.none("sermon(0, 1, 1) of what is out", out, 3, x -> x.sermon(0, 1, 1));
        int[] wrong = {0, -1, 41, 42, MAX, MIN};
        for (int n : wrong) {
            Check.none("sermon(0, 0, " + n + ")", fresh(), 3, x -> x.sermon(0, 0, n));
        }
        int[] none = {-1, 3, 5, 6, MAX, MIN};
        for (int k : none) {
            Check.none("sermon(" + k + ", 0, 1)", fresh(), 3, x -> x.sermon(k, 0, 1));
            Check.none("sermon(0, " + k + ", 1)", fresh(), 3, x -> x.sermon(0, k, 1));
        }
        Check.none("sermon(2, 0, 1)", fresh(), 3, x -> x.sermon(2, 0, 1));
    }

    private static void soil() {
        Check.promise(26, "A STAIN is deepened by much (1 .. 99): how deep it is;");
        ZincSermon x = fresh();
        Check.due("soil(1, 1)", x.soil(1, 1), 5);
        Check.due("soil(2, 99) of nothing", x.soil(2, 99), 99);
        Check.due("soil(0, 8)", x.soil(0, 8), 98);
        Check.due("soil(0, 1)", x.soil(0, 1), 99);
        x.undo();
        Check.due("soil(0, 2), 99 at most", x.soil(0, 2), 99);
        x.undo();
        Check.due("soil(0, 99), 99 at most", x.soil(0, 99), 99);
        Check.due("stain(0, 0)", x.stain(0, 0), 99);
        Check.due("stain(1, 0)", x.stain(1, 0), 5);
        Check.due("stuff stays", x.stain(2, 1), 2);
        Check.due("ACTS", x.has(10), 4);
        Check.unrefused(x);
    }

    private static void soilThatCannotBe() {
        Check.promise(26, "NONE, refused (3), when it is 99 deep, there is none such, or for others.");
        ZincSermon full = fresh();
        full.soil(0, 9);
        Check.none("soil(0, 1) of 99", full, 3, x -> x.soil(0, 1));
        Check.none("soil(0, 99) of 99", full, 3, x -> x.soil(0, 99));
        int[] wrong = {0, -1, 100, 101, MAX, MIN};
        for (int much : wrong) {
            Check.none("soil(1, " + much + ")", fresh(), 3, x -> x.soil(1, much));
        }
        int[] none = {-1, 3, 4, 6, MAX, MIN};
        for (int stain : none) {
            Check.none("soil(" + stain + ", 1)", fresh(), 3, x -> x.soil(stain, 1));
        }
    }

    private static void mend() {
        Check.promise(27, "A BOARD is mended: true;");
        ZincSermon x = fresh();
        x.sermon(0, 1, 1);
        x.sermon(1, 0, 40);
        Check.due("zinc of a", x.board(0, 1), 18);
        Check.due("zinc of b", x.board(1, 1), 0);
        Check.due("mend(1)", x.mend(1), true);
        Check.due("zinc of b as told", x.board(1, 1), 9);
        Check.due("zinc of a stays", x.board(0, 1), 18);
        Check.due("mend(0)", x.mend(0), true);
        Check.due("zinc of a as told", x.board(0, 1), 20);
        Check.due("BOARDS without zinc", x.has(6), 0);
        Check.due("ACTS", x.has(10), 4);
        Check.unrefused(x);
    }

    private static void mendThatCannotBe() {
        Check.promise(27, "false, refused (3), when its zinc is as told, or there is none such.");
        Check.no("mend(0) as told", fresh(), 3, x -> x.mend(0));
        Check.no("mend(1) as told", fresh(), 3, x -> x.mend(1));
        ZincSermon x = fresh();
        x.sermon(0, 0, 1);
        x.mend(0);
        Check.no("mend(0) anew", x, 3, y -> y.mend(0));
        int[] none = {-1, 2, 3, 5, MAX, MIN};
        for (int board : none) {
            ZincSermon worn = fresh();
            worn.sermon(0, 0, 1);
            Check.no("mend(" + board + ")", worn, 3, y -> y.mend(board));
        }
    }

    private static void pour() {
        Check.promise(28, "Other water (0 .. 99): true;");
        ZincSermon x = fresh();
        int[] waters = {0, 1, 98, 99, 0, 99, 7};
        for (int water : waters) {
            Check.due("pour(" + water + ")", x.pour(water), true);
            Check.due("water", x.has(4), water);
        }
        Check.due("ACTS", x.has(10), waters.length);
        Check.unrefused(x);
    }

    private static void pourThatCannotBe() {
        Check.promise(28, "false, refused (3), when it is that, or for others.");
        int[] wrong = {7, -1, 100, 101, MAX, MIN};
        for (int water : wrong) {
            Check.no("pour(" + water + ")", fresh(), 3, x -> x.pour(water));
        }
        Check.no("pour(0) of none", new ZincSermon(), 3, x -> x.pour(0));
        ZincSermon x = fresh();
        x.pour(99);
        Check.no("pour(99) anew", x, 3, y -> y.pour(99));
        Check.due("pour(7) again", x.pour(7), true);
    }

    private static void undo() {
        Check.promise(29, "The latest ACT is undone: all is as it was ahead of it");
        ZincSermon x = fresh();
        x.weeks(1);
        long first = Check.all(x) - x.has(10);
        x.sermon(0, 0, 5);
        x.undo();
        Check.due("as behind weeks(1)", Check.all(x) - x.has(10), first);
        Check.due("hearers", x.hearer(0, 2) * 2 + x.hearer(1, 2), 1);
        Check.due("KEPT", x.has(8), 1);
        // Who was saved is lost, who was lost is saved again.
        x.sermon(0, 0, 5);
        Check.due("saved", x.has(7), 2);
        x.undo();
        Check.due("saved then", x.has(7), 1);
        x.chance(1);
        Check.due("saved behind a DROUGHT", x.has(7), 0);
        x.undo();
        Check.due("saved again", x.has(7), 1);
    }

    /** Each ACT by itself, and all that it changes. */
    private static void undoOfEachAct() {
        Check.promise(29, "all is as it was ahead of it (but the seed): true;");
        act("weeks(40)", x -> x.weeks(40) >= 0);
        act("weeks(1)", x -> x.weeks(1) >= 0);
        act("sermon", x -> x.sermon(1, 0, 40) >= 0);
        act("soil", x -> x.soil(2, 99) >= 0);
        act("mend", x -> x.mend(0));
        act("pour", x -> x.pour(0));
        act("chance(40)", x -> x.chance(40) >= 0);
    }

    private static void act(String name, Predicate<ZincSermon> act) {
        ZincSermon x = fresh();
        x.sermon(0, 1, 2);
        x.pour(8);
        Check.see(x, 0, 1, 1);
        long before = Check.all(x);
        int[] image = Check.image(x);
        Check.due(name, act.test(x), true);
        Check.due("ACTS behind " + name, x.has(10), 3);
        Check.due(name + " undone", x.undo(), true);
        x.seed(1);
        Check.due("all behind " + name + " undone", Check.all(x), before);
        Check.due("the IMAGE behind " + name + " undone", java.util.Arrays.equals(Check.image(x), image), true);
        Check.unrefused(x);
    }

    private static void butTheSeed() {
        Check.promise(29, "(but the seed)");
        ZincSermon x = fresh();
        x.chance(3);
        int drawn = x.has(11);
        x.undo();
        Check.due("the seed behind chance undone", x.has(11), drawn);
        x.pour(1);
        x.seed(99);
        x.undo();
        Check.due("the seed behind pour undone", x.has(11), 99);
        Check.due("water", x.has(4), 7);
    }

    private static void noneCanBeUndone() {
        Check.promise(29, "false, refused (4), when none can be.");
        Check.no("undo() of a new object", new ZincSermon(), 4, x -> x.undo());
        Check.no("undo() at first", fresh(), 4, x -> x.undo());
        ZincSermon x = fresh();
        x.weeks(3);
        x.undo();
        Check.no("undo() behind one undone", x, 4, y -> y.undo());
        x.pour(1);
        Check.on(x, Check.image(x));
        Check.no("undo() behind on()", x, 4, y -> y.undo());
        x.pour(2);
        Check.tape(x, TEXT);
        x.chapel();
        Check.no("undo() behind chapel()", x, 4, y -> y.undo());
        // What was refused is no ACT.
        ToIntFunction<ZincSermon> refused = y -> y.weeks(0) + y.chance(41) + y.sermon(0, 2, 1) + y.soil(0, 0)
                + (y.mend(0) ? 1 : 0) + (y.pour(7) ? 1 : 0) + (y.seed(-1) ? 1 : 0);
        ZincSermon z = fresh();
        Check.due("refused", refused.applyAsInt(z), -4);
        Check.no("undo() behind what was refused", z, 4, y -> y.undo());
    }

    private static void ringOfTwenty() {
        Check.promise(29, "when none can be.");
        // 25 ACTS, 5 undone, 5 others: the last 20 are 6 .. 20 and the others.
        ZincSermon x = fresh();
        for (int k = 1; k <= 25; k++) {
            x.pour(k == 7 ? 70 : k);
        }
        for (int k = 0; k < 5; k++) {
            Check.due("undo()", x.undo(), true);
        }
        Check.due("water", x.has(4), 20);
        Check.due("ACTS", x.has(10), 15);
        for (int k = 31; k <= 35; k++) {
            x.pour(k);
        }
        Check.due("ACTS", x.has(10), 20);
        int[] waters = {34, 33, 32, 31, 20, 19, 18, 17, 16, 15, 14, 13, 12, 11, 10, 9, 8, 70, 6, 5};
        for (int water : waters) {
            Check.due("undo()", x.undo(), true);
            Check.due("water", x.has(4), water);
        }
        Check.no("undo() of the 21st", x, 4, y -> y.undo());
    }

    private static void seed() {
        Check.promise(30, "The seed: true;");
        ZincSermon x = fresh();
        int[] seeds = {0, 1, 2, MAX - 1, MAX, 0};
        for (int seed : seeds) {
            Check.due("seed(" + seed + ")", x.seed(seed), true);
            Check.due("the seed", x.has(11), seed);
        }
        Check.due("seed(0) again", x.seed(0), true);
        Check.due("no ACT", x.has(10), 0);
        Check.unrefused(x);
    }

    private static void seedBelowZero() {
        Check.promise(30, "false, refused (5), when it is below 0.");
        int[] wrong = {-1, -2, MIN, MIN + 1};
        for (int seed : wrong) {
            ZincSermon x = fresh();
            x.seed(5);
            Check.no("seed(" + seed + ")", x, 5, y -> y.seed(seed));
            Check.due("the seed stays", x.has(11), 5);
        }
    }

    private static void kept() {
        Check.promise(31, "Of what is told as KEPT, the k-th from the oldest on: 0 WEEK, 1 BOARD, 2 STAIN, 3 how much came out.");
        ZincSermon x = Check.chapel("board a ribs 1 zinc 9;board b ribs 1 zinc 9;board c ribs 1 zinc 9;board d ribs 1 zinc 9;board e ribs 9 zinc 9;"
                + "stain n deep 0 stuff 0;stain o deep 0 stuff 0;stain p deep 0 stuff 0;stain q deep 0 stuff 0;stain r deep 0 stuff 0;stain s deep 99 stuff 0;"
                + "out if(ribs=9,11,0);picks ribs;");
        Check.on(x, Check.sealed(3, 229, 0, 9, 9, 9, 9, 9, 0, 0, 0, 0, 0, 99));
        x.sermon(0, 5, 1);
        x.weeks(1);
        x.soil(0, 1);
        x.sermon(4, 0, 1);
        x.soil(5, 99);
        x.weeks(1);
        x.sermon(3, 0, 1);
        int[][] rows = {{997, 0, 5, 0}, {997, 4, 5, 99}, {998, 4, 0, 1}, {998, 4, 5, 99}};
        Check.due("told", x.has(8), 4);
        for (int k = 0; k < rows.length; k++) {
            for (int what = 0; what < 4; what++) {
                Check.due("kept(" + k + ", " + what + ")", x.kept(k, what), rows[k][what]);
            }
        }
        Check.due("sermon(3, 0, 1) of nothing was refused", x.status(3), 1);
    }

    private static void keptOfNone() {
        Check.promise(31, "NONE when there is none such, or for others.");
        Check.due("kept(0, 0) of a new object", new ZincSermon().kept(0, 0), -1);
        ZincSermon x = fresh();
        Check.due("kept(0, 0) at first", x.kept(0, 0), -1);
        x.weeks(2);
        int[] none = {2, 3, 40, MAX, -1, MIN};
        for (int k : none) {
            for (int what = 0; what < 4; what++) {
                Check.due("kept(" + k + ", " + what + ")", x.kept(k, what), -1);
            }
        }
        int[] others = {4, 5, MAX, -1, MIN};
        for (int what : others) {
            Check.due("kept(1, " + what + ")", x.kept(1, what), -1);
        }
        Check.due("kept(1, 3)", x.kept(1, 3), 3);
        x.weeks(40);
        for (int what = 0; what < 4; what++) {
            Check.due("kept(40, " + what + ") of 40", x.kept(40, what), -1);
        }
        Check.unrefused(x);
    }

    /** What was told no more is told again when ACTS are undone. */
    private static void keptComesBack() {
        Check.promise(31, "Of what is told as KEPT, the k-th from the oldest on:");
        ZincSermon x = Check.chapel("board a ribs 1 zinc 1;stain s deep 99 stuff 0;out 0;");
        for (int k = 0; k < 24; k++) {
            x.weeks(40);
        }
        for (int week = 960; week > 160; week -= 40) {
            Check.due("told at " + week, x.has(8), 40);
            Check.due("the oldest at " + week, x.kept(0, 0), week - 40);
            Check.due("the latest at " + week, x.kept(39, 0), week - 1);
            Check.due("undo() at " + week, x.undo(), true);
        }
        Check.due("the oldest", x.kept(0, 0), 120);
        Check.due("the latest", x.kept(39, 0), 159);
        Check.due("undo() at 160", x.undo(), false);
        x.sermon(0, 0, 1);
        Check.due("the oldest of one more", x.kept(0, 0), 121);
        Check.due("the latest of one more", x.kept(39, 0), 160);
        x.undo();
        Check.due("the oldest again", x.kept(0, 0), 120);
    }

    /** The last of 512 calls is answered as the first. */
    private static void manyCalls() {
        Check.says("What it is", "An object is used for at most 512 calls after it has been made;");
        ZincSermon x = new ZincSermon();
        for (int k = 0; k < 511; k++) {
            x.seed(-1);
        }
        Check.due("refused by 511 calls", x.status(5), 511);
        // 470 ACTS, 20 undone, then 22 calls more.
        x = new ZincSermon();
        for (int k = 1; k <= 470; k++) {
            x.pour(k % 100);
        }
        for (int k = 469; k >= 450; k--) {
            x.undo();
            Check.due("water", x.has(4), k % 100);
        }
        Check.due("undo() of the 21st", x.undo(), false);
        Check.due("water", x.has(4), 50);
        manySermons();
    }

    /** 960 SERMONS of 24 calls and 400 more, on one BOARD and the other. */
    private static void manySermons() {
        ZincSermon x = Check.chapel("board a ribs 1 zinc 1;board b ribs 1 zinc 1;stain s deep 99 stuff 0;out 0;");
        for (int k = 0; k < 24; k++) {
            x.weeks(40);
        }
        for (int k = 0; k < 400; k++) {
            x.sermon(k / 3 % 2, 0, 1);
        }
        for (int k = 0; k < 40; k++) {
            Check.due("the BOARD of SERMON " + (360 + k), x.kept(k, 1), (360 + k) / 3 % 2);
        }
        Check.due("its WEEK", x.kept(0, 0), 960);
        Check.due("told", x.has(8), 40);
    }
}
