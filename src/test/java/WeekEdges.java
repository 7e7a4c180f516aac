/** The boundary cases of Terms II: STROKES, SERMONS, WEEKS, DRAWS, what is KEPT, ACTS. */
final class WeekEdges {
    private WeekEdges() {
    }

    static void run() {
        atFirst();
        byWhatIsAhead();
        comesOut();
        wears();
        tillNothingIsLeft();
        whoIsSaved();
        theDeepestStain();
        theBoardPicked();
        asManyStrokesAsRibs();
        whoSlides();
        withoutSlide();
        withoutSermon();
        oneMoreWeek();
        droughts();
        kept();
        lastForty();
        acts();
        lastTwenty();
        draws();
    }

    private static void atFirst() {
        Check.terms("II. It is WEEK 0 at first, nobody is saved.");
        ZincSermon x = Check.chapel("board b ribs 1 zinc 9;stain s deep 9 stuff 0;hearer g sin 0 ear 0;hearer h sin 9 ear 9;saved all;");
        Check.due("WEEK", x.has(3), 0);
        Check.due("saved", x.has(7), 0);
        Check.due("saved(0)", x.saved(0), 0);
        Check.due("hearer(1, 2)", x.hearer(1, 2), 0);
        Check.due("a new object's WEEK", new ZincSermon().has(3), 0);
        Check.due("a new object's saved", new ZincSermon().has(7), 0);
    }

    private static void byWhatIsAhead() {
        Check.terms("A STROKE of a STAIN on a BOARD, by what is ahead of it:");
        // Out by zinc, wear by depth: 20 deep, 9 zinc > 11, 3 (20 % 7 is 6) > 8, 0 (11 % 7 is 4) > 8, 0.
        ZincSermon x = Check.chapel("board b ribs 1 zinc 9;stain s deep 20 stuff 0;out zinc;wear deep%7;");
        int[] deep = {11, 8, 8};
        int[] zinc = {3, 0, 0};
        for (int n = 1; n <= 3; n++) {
            Check.due("strokes " + n, x.strokes(0, 0, n), deep[n - 1]);
            x.sermon(0, 0, n);
            Check.due("deep behind " + n, x.stain(0, 0), deep[n - 1]);
            Check.due("zinc behind " + n, x.board(0, 1), zinc[n - 1]);
            x.undo();
        }
    }

    /** How much of a STAIN 5 deep comes out by one stroke. */
    private static void out(String statement, int want) {
        ZincSermon x = Check.chapel("board b ribs 1 zinc 9;stain s deep 5 stuff 0;" + statement);
        Check.due("strokes by " + statement, x.strokes(0, 0, 1), 5 - want);
        Check.due("sermon by " + statement, x.sermon(0, 0, 1), want);
        Check.due("deep by " + statement, x.stain(0, 0), 5 - want);
    }

    private static void comesOut() {
        Check.terms("as much comes out as the SUM of out tells (without it: 1), 0 at least, no more than is left of it;");
        out("", 1);
        out("out 2;", 2);
        out("out 0;", 0);
        out("out 0-1;", 0);
        out("out 0-9999*9999;", 0);
        out("out 4;", 4);
        out("out 5;", 5);
        out("out 6;", 5);
        out("out 9999*9999;", 5);
    }

    /** The zinc that is left by one stroke. */
    private static void wear(int zinc, String statement, int want) {
        ZincSermon x = Check.chapel("board b ribs 1 zinc " + zinc + ";stain s deep 5 stuff 0;" + statement);
        x.sermon(0, 0, 1);
        Check.due("zinc " + zinc + " by " + statement, x.board(0, 1), want);
    }

    private static void wears() {
        Check.terms("the zinc is less by the SUM of wear (without it: 1), 0 .. 9 (below is 0, above 9), 0 at least.");
        wear(20, "", 19);
        wear(20, "wear 2;", 18);
        wear(20, "wear 0;", 20);
        wear(20, "wear 0-1;", 20);
        wear(20, "wear 0-9999*9999;", 20);
        wear(20, "wear 8;", 12);
        wear(20, "wear 9;", 11);
        wear(20, "wear 10;", 11);
        wear(20, "wear 9999*9999;", 11);
        wear(10, "wear 9;", 1);
        wear(9, "wear 9;", 0);
        wear(8, "wear 9;", 0);
        wear(1, "", 0);
        wear(1, "wear 10;", 0);
        ZincSermon x = Check.chapel("board b ribs 1 zinc 3;stain s deep 5 stuff 0;");
        x.sermon(0, 0, 5);
        Check.due("five strokes on 3 zinc", x.board(0, 1), 0);
    }

    private static void tillNothingIsLeft() {
        Check.terms("A SERMON of n strokes: these, one after the other, till nothing is left of the STAIN;");
        ZincSermon x = Check.chapel("board b ribs 9 zinc 20;stain s deep 5 stuff 0;out rub;");
        // 1 + 2 + 2 of 3: the third is the last one.
        int[] came = {1, 3, 5, 5, 5};
        int[] zinc = {19, 18, 17, 17, 17};
        for (int n = 1; n <= 5; n++) {
            Check.due("a SERMON of " + n, x.sermon(0, 0, n), came[n - 1]);
            Check.due("its zinc", x.board(0, 1), zinc[n - 1]);
            x.undo();
        }
        Check.due("a WEEK of 9 ribs", x.weeks(1), 5);
        Check.due("its zinc", x.board(0, 1), 17);
    }

    private static void whoIsSaved() {
        Check.terms("then each HEARER who is not saved, for whom the TEST of saved holds (without it: nobody), is saved (by zinc and depth as they are then).");
        String text = "board b ribs 2 zinc 9;stain s deep 20 stuff 4;hearer f sin 1 ear 0;hearer g sin 2 ear 0;hearer h sin 3 ear 0;out 6;wear 2;";
        Check.due("without saved", Check.chapel(text).saved(40), 0);
        Check.due("saved all", Check.chapel(text + "saved all;").saved(1), 7);
        Check.due("saved not all", Check.chapel(text + "saved not all;").saved(40), 0);
        Check.due("saved sin=2", Check.chapel(text + "saved sin=2;").saved(1), 2);
        Check.due("saved sin>1", Check.chapel(text + "saved sin>1;").saved(1), 6);
        Check.due("by zinc then", Check.chapel(text + "saved zinc=5;").saved(1), 7);
        Check.due("not by zinc ahead", Check.chapel(text + "saved zinc>5;").saved(1), 0);
        Check.due("by depth then", Check.chapel(text + "saved deep=8;").saved(1), 7);
        Check.due("not by depth ahead", Check.chapel(text + "saved deep>8;").saved(1), 0);
        Check.due("by depth 0", Check.chapel(text + "saved deep=0;").saved(2), 7);
        // Who is saved stays so, though the TEST holds for him no more.
        ZincSermon x = Check.chapel(text + "saved sin+week*2=3;");
        int[] bits = {0, 4, 5, 5};
        for (int n = 0; n < bits.length; n++) {
            Check.due("saved(" + n + ")", x.saved(n), bits[n]);
        }
        Check.due("a SERMON that is an ACT saves, too", x.sermon(0, 0, 1), 6);
        Check.due("hearer(2, 2)", x.hearer(2, 2), 1);
        Check.due("hearer(0, 2)", x.hearer(0, 2), 0);
    }

    private static void theDeepestStain() {
        Check.terms("A WEEK: FIRST the deepest STAIN of which something is left (of like ones the first)");
        gone("stain s deep 5 stuff 0;stain t deep 9 stuff 0;stain u deep 9 stuff 0;", 1);
        gone("stain s deep 9 stuff 0;stain t deep 9 stuff 0;stain u deep 9 stuff 0;", 0);
        gone("stain s deep 0 stuff 9;stain t deep 0 stuff 9;stain u deep 1 stuff 0;", 2);
        gone("stain s deep 98 stuff 0;stain t deep 0 stuff 0;stain u deep 99 stuff 0;", 2);
        // 3 3 2, by one each WEEK, of like ones the first.
        ZincSermon x = Check.chapel("board b ribs 1 zinc 9;stain s deep 3 stuff 0;stain t deep 3 stuff 0;stain u deep 2 stuff 0;");
        Check.due("weeks(10)", x.weeks(10), 8);
        int[] stains = {0, 1, 0, 1, 2, 0, 1, 2};
        Check.due("SERMONS", x.has(8), stains.length);
        for (int k = 0; k < stains.length; k++) {
            Check.due("the STAIN of WEEK " + k, x.kept(k, 2), stains[k]);
            Check.due("the WEEK of SERMON " + k, x.kept(k, 0), k);
        }
    }

    private static void gone(String stains, int want) {
        ZincSermon x = Check.chapel("board b ribs 1 zinc 9;" + stains);
        x.weeks(1);
        Check.due("the STAIN of " + stains, x.kept(0, 2), want);
    }

    private static void theBoardPicked() {
        Check.terms("is gone at on the BOARD of which the SUM of picks is greatest (without it: 0), of like ones the first,");
        picked("", 0);
        picked("picks 0;", 0);
        picked("picks ribs;", 1);
        picked("picks 0-ribs;", 0);
        picked("picks zinc;", 0);
        picked("picks 0-zinc;", 1);
        picked("picks 0-100+zinc;", 0);
        picked("picks zinc*10+ribs;", 2);
        picked("picks if(ribs=4,0,0-1);", 2);
        picked("picks if(ribs=2,0-1,0);", 1);
        // By the STAIN that is gone at.
        picked("picks if(deep=60 and stuff=1,ribs,0-ribs);", 1);
        picked("picks if(deep=30,ribs,0-ribs);", 0);
        picked("picks if(water=9 and week=0,ribs,0);", 1);
        // Above 10 to the 6 all are like.
        picked("picks ribs*9999*9999;", 0);
        // The zinc that is left counts: 50 50 > 46 50 > 46 46.
        ZincSermon x = Check.chapel("board a ribs 4 zinc 50;board b ribs 4 zinc 50;stain s deep 90 stuff 0;picks zinc;");
        x.weeks(3);
        int[] boards = {0, 1, 0};
        for (int k = 0; k < boards.length; k++) {
            Check.due("the BOARD of WEEK " + k, x.kept(k, 1), boards[k]);
        }
    }

    private static void picked(String picks, int want) {
        ZincSermon x = Check.chapel("board a ribs 2 zinc 50;board b ribs 7 zinc 20;board c ribs 4 zinc 50;"
                + "stain s deep 30 stuff 4;stain t deep 60 stuff 1;water 9;" + picks);
        x.weeks(1);
        Check.due("the BOARD by " + picks, x.kept(0, 1), want);
    }

    private static void asManyStrokesAsRibs() {
        Check.terms("by a SERMON of as many strokes as the BOARD has ribs (none without such a STAIN, or without BOARDS).");
        for (int ribs = 1; ribs <= 9; ribs++) {
            ZincSermon x = Check.chapel("board b ribs " + ribs + " zinc 99;stain s deep 99 stuff 0;");
            Check.due("a WEEK of " + ribs + " ribs", x.weeks(1), ribs);
            Check.due("its zinc", x.board(0, 1), 99 - ribs);
        }
        String[] none = {"", "board b ribs 9 zinc 9;", "stain s deep 9 stuff 0;", "board b ribs 9 zinc 9;stain s deep 0 stuff 0;"};
        for (String text : none) {
            ZincSermon x = Check.chapel(text + "hearer h sin 0 ear 0;saved all;");
            Check.due("a WEEK of " + text, x.weeks(1), 0);
            Check.due("SERMONS of " + text, x.has(8), 0);
            Check.due("saved by " + text, x.has(7), 0);
            Check.due("WEEK of " + text, x.has(3), 1);
        }
        ZincSermon x = Check.chapel("board b ribs 9 zinc 9;stain s deep 9 stuff 0;");
        Check.due("the last one that is left", x.weeks(1), 9);
        Check.due("none is left", x.weeks(1), 0);
        Check.due("SERMONS", x.has(8), 1);
    }

    private static void whoSlides() {
        Check.terms("THEN each HEARER who was saved ahead of this WEEK, for whom the TEST of slide holds", "is saved no more.");
        String text = "board b ribs 2 zinc 20;stain s deep 40 stuff 4;hearer f sin 1 ear 5;hearer g sin 2 ear 0;out 4;wear 2;water 3;";
        // Saved in WEEK 0, lost in WEEK 1 (not saved anew by its SERMON), saved in WEEK 2 and so on.
        ZincSermon x = Check.chapel(text + "saved all;slide all;");
        int[] byTurns = {0, 3, 0, 3, 0, 3};
        for (int n = 0; n < byTurns.length; n++) {
            Check.due("saved(" + n + ") by turns", x.saved(n), byTurns[n]);
        }
        x = Check.chapel(text + "saved all;slide sin=2;");
        Check.due("who stays", x.saved(2), 1);
        // Who was saved by an ACT was saved ahead of the WEEK.
        x = Check.chapel(text + "saved all;slide all;");
        x.sermon(0, 0, 1);
        Check.due("saved by an ACT", x.has(7), 2);
        x.weeks(1);
        Check.due("and lost in the WEEK", x.has(7), 0);
        // Its words are as they are behind the SERMON: zinc 16 > 12, deep 32 > 24, in WEEK 1.
        String[] then = {"zinc=12", "deep=24", "came=8", "ribs=2", "stuff=4", "week=1", "water=3", "sin<3 and ear<6"};
        for (String test : then) {
            Check.due("slide " + test, Check.chapel(text + "saved week=0;slide " + test + ";").saved(2), 0);
            Check.due("slide not " + test, Check.chapel(text + "saved week=0;slide not[" + test + "];").saved(2), 3);
        }
    }

    private static void withoutSlide() {
        Check.terms("(without it: nobody;");
        String text = "board b ribs 2 zinc 20;stain s deep 40 stuff 4;hearer f sin 0 ear 0;hearer g sin 9 ear 9;saved all;";
        Check.due("without slide", Check.chapel(text).saved(40), 3);
        Check.due("slide not all", Check.chapel(text + "slide not all;").saved(40), 3);
        Check.due("slide all", Check.chapel(text + "slide all;").saved(40), 0);
    }

    private static void withoutSermon() {
        Check.terms("without a SERMON ribs, zinc, deep, stuff, came are 0),");
        // By WEEK 1 nothing of the STAIN is left; the BOARD and STAIN of WEEK 0 are not those of WEEK 1.
        String text = "board b ribs 2 zinc 20;stain s deep 2 stuff 4;hearer f sin 1 ear 5;water 3;saved all;slide ";
        String[] zeros = {"ribs", "zinc", "deep", "stuff", "came"};
        for (String word : zeros) {
            Check.due("slide " + word + "=0", Check.chapel(text + "week=1 and " + word + "=0;").saved(2), 0);
            Check.due("slide not " + word + "=0", Check.chapel(text + "week=1 and not " + word + "=0;").saved(2), 1);
        }
        Check.due("the others are as they are", Check.chapel(text + "week=1 and water=3 and sin=1 and ear=5;").saved(2), 0);
        // A DROUGHT: something of the STAIN is left all the same.
        ZincSermon x = Check.chapel("board b ribs 2 zinc 20;stain s deep 9 stuff 4;hearer f sin 1 ear 5;dry 100;water 3;saved all;"
                + "slide ribs+zinc+deep+stuff+came=0 and water=3 and week=0;");
        x.sermon(0, 0, 1);
        Check.due("saved ahead of a DROUGHT", x.hearer(0, 2), 1);
        Check.due("a DROUGHT", x.chance(1), 1);
        Check.due("lost in a DROUGHT", x.hearer(0, 2), 0);
        // Without BOARDS: saved by an IMAGE.
        x = Check.chapel("stain s deep 9 stuff 4;hearer f sin 1 ear 5;slide ribs+zinc+deep+stuff+came=0;");
        Check.due("an IMAGE without BOARDS", Check.on(x, Check.sealed(0, 0, 0, 9, 1)), true);
        Check.due("saved", x.saved(0), 1);
        Check.due("lost without BOARDS", x.saved(1), 0);
        // The water and the WEEK are as they are, though there was no SERMON at all yet.
        x = Check.chapel("hearer f sin 1 ear 5;slide water=5 and week=2;");
        Check.due("an IMAGE of WEEK 2", Check.on(x, Check.sealed(0, 2, 4, 1)), true);
        Check.due("other water", x.saved(1), 1);
        x.pour(5);
        Check.due("that water", x.saved(1), 0);
    }

    private static void oneMoreWeek() {
        Check.terms("The WEEK is one more (999 at most).");
        ZincSermon x = Check.chapel("");
        x.weeks(1);
        Check.due("WEEK", x.has(3), 1);
        Check.due("an IMAGE of WEEK 998", Check.on(x, Check.sealed(3, 230, 0)), true);
        x.weeks(1);
        Check.due("WEEK", x.has(3), 999);
        Check.due("no WEEK more", x.weeks(1), -1);
        Check.due("no WEEK more by the seed", x.chance(1), -1);
        Check.due("WEEK", x.has(3), 999);
    }

    /** By 1 the first DRAW of 100 is 18: 1103527590 / 64 is 17242618 and some. */
    private static void droughts() {
        Check.terms("BY THE SEED a WEEK begins with a DRAW of 100: below dry it is a DROUGHT: there is no SERMON in it.");
        String text = "board b ribs 2 zinc 20;stain s deep 9 stuff 4;hearer h sin 0 ear 0;saved all;dry ";
        ZincSermon x = Check.chapel(text + "18;");
        Check.due("dry 18", x.chance(1), 0);
        Check.due("a SERMON", x.has(8), 1);
        Check.due("what is left", x.stain(0, 0), 7);
        x = Check.chapel(text + "19;");
        Check.due("dry 19", x.chance(1), 1);
        Check.due("no SERMON", x.has(8), 0);
        Check.due("what is left", x.stain(0, 0), 9);
        Check.due("zinc", x.board(0, 1), 20);
        Check.due("saved", x.has(7), 0);
        Check.due("WEEK", x.has(3), 1);
        Check.due("a DRAW", x.has(11), 1103527590);
        Check.due("dry 0, a DRAW of 0", seeded("dry 0;", seedFor(0)).chance(1), 0);
        Check.due("dry 1, a DRAW of 0", seeded("dry 1;", seedFor(0)).chance(1), 1);
        Check.due("without dry, a DRAW of 0", seeded("", seedFor(0)).chance(1), 0);
        Check.due("dry 99, a DRAW of 99", seeded("dry 99;", seedFor(99)).chance(1), 0);
        Check.due("dry 100, a DRAW of 99", seeded("dry 100;", seedFor(99)).chance(1), 1);
        // A DRAW is done where there would be no SERMON anyway, too.
        x = Check.chapel("");
        x.chance(1);
        Check.due("a DRAW of nothing", x.has(11), 1103527590);
        // Weeks without the seed have no DRAW.
        x = Check.chapel(text + "100;");
        x.weeks(5);
        Check.due("no DRAW", x.has(11), 1);
        Check.due("no DROUGHT", x.stain(0, 0), 0);
    }

    private static int seedFor(int drawn) {
        int seed = 0;
        while ((1103515245L * seed + 12345L) % (1L << 31) / 64 % 100 != drawn) {
            seed++;
        }
        return seed;
    }

    private static ZincSermon seeded(String text, int seed) {
        ZincSermon x = Check.chapel(text);
        x.seed(seed);
        return x;
    }

    private static void kept() {
        Check.terms("KEPT is each SERMON (of WEEKS and ACTS): WEEK, BOARD, STAIN, how much came out");
        ZincSermon x = Check.chapel("board a ribs 1 zinc 9;board b ribs 3 zinc 9;stain s deep 5 stuff 0;stain t deep 4 stuff 0;"
                + "stain u deep 1 stuff 1;out if(stuff=1,0,1);picks ribs;dry 100;");
        x.weeks(1);
        x.sermon(0, 1, 40);
        x.chance(2);
        x.sermon(1, 2, 2);
        x.weeks(1);
        int[][] rows = {{0, 1, 0, 3}, {1, 0, 1, 4}, {3, 1, 2, 0}, {3, 1, 0, 2}};
        Check.due("SERMONS", x.has(8), rows.length);
        for (int k = 0; k < rows.length; k++) {
            for (int what = 0; what < 4; what++) {
                Check.due("kept(" + k + ", " + what + ")", x.kept(k, what), rows[k][what]);
            }
        }
        // What is AHEAD, and what strokes would do, is not KEPT.
        x.later(0, 40);
        x.clean();
        x.strokes(0, 0, 40);
        x.needed(0, 2, 0);
        Check.due("SERMONS", x.has(8), rows.length);
    }

    private static void lastForty() {
        Check.terms("(the last 40 are told).");
        ZincSermon x = Check.chapel("board a ribs 1 zinc 9;stain s deep 99 stuff 0;out 0;");
        x.weeks(39);
        Check.due("has(8) of 39", x.has(8), 39);
        Check.due("kept(38, 0) of 39", x.kept(38, 0), 38);
        Check.due("kept(39, 0) of 39", x.kept(39, 0), -1);
        x.weeks(1);
        Check.due("has(8) of 40", x.has(8), 40);
        Check.due("kept(0, 0) of 40", x.kept(0, 0), 0);
        Check.due("kept(39, 0) of 40", x.kept(39, 0), 39);
        x.weeks(1);
        Check.due("has(8) of 41", x.has(8), 40);
        Check.due("kept(0, 0) of 41", x.kept(0, 0), 1);
        Check.due("kept(39, 0) of 41", x.kept(39, 0), 40);
        Check.due("kept(40, 0) of 41", x.kept(40, 0), -1);
        // As many as 512 calls leave room for.
        for (int k = 0; k < 23; k++) {
            x.weeks(40);
        }
        Check.due("kept(0, 0) of 961", x.kept(0, 0), 921);
        Check.due("kept(39, 0) of 961", x.kept(39, 0), 960);
    }

    private static void acts() {
        Check.terms("ACTS: WEEKS, by the seed; a SERMON (1 .. 40 strokes); a STAIN is deepened (99 at most); a BOARD is mended (its zinc is as told); other water.");
        ZincSermon x = Check.chapel("board a ribs 1 zinc 50;stain s deep 90 stuff 0;");
        x.weeks(2);
        Check.due("ACTS behind weeks", x.has(10), 1);
        x.chance(2);
        Check.due("ACTS behind chance", x.has(10), 2);
        Check.due("a SERMON of 1", x.sermon(0, 0, 1), 1);
        Check.due("ACTS behind a SERMON", x.has(10), 3);
        Check.due("a SERMON of 40", x.sermon(0, 0, 40), 40);
        Check.due("a SERMON of 41", x.sermon(0, 0, 41), -1);
        Check.due("a SERMON of 0", x.sermon(0, 0, 0), -1);
        Check.due("ACTS behind two SERMONS", x.has(10), 4);
        Check.due("deepened", x.soil(0, 99), 99);
        Check.due("ACTS behind soil", x.has(10), 5);
        Check.due("zinc", x.board(0, 1), 5);
        Check.due("mended", x.mend(0), true);
        Check.due("zinc as told", x.board(0, 1), 50);
        Check.due("ACTS behind mend", x.has(10), 6);
        Check.due("other water", x.pour(1), true);
        Check.due("ACTS behind pour", x.has(10), 7);
        // What is asked, the seed, the tape, what is SEEN and images are none.
        x.seed(5);
        Check.see(x, 0, 1, 1);
        x.image();
        x.later(0, 3);
        x.match(-1);
        x.heads(0, 0);
        Check.due("ACTS behind what is none", x.has(10), 7);
    }

    private static void lastTwenty() {
        Check.terms("The last 20 can be undone.");
        ZincSermon x = Check.chapel("");
        for (int k = 1; k <= 25; k++) {
            x.pour(k);
            Check.due("ACTS behind " + k, x.has(10), Math.min(k, 20));
        }
        for (int k = 24; k >= 5; k--) {
            Check.due("undo() to " + k, x.undo(), true);
            Check.due("water " + k, x.has(4), k);
        }
        Check.due("the 21st", x.undo(), false);
        Check.due("water", x.has(4), 5);
        Check.due("ACTS", x.has(10), 0);
    }

    private static void draws() {
        Check.terms("A DRAW of m: x (the seed) becomes (1103515245 x + 12345) mod 2 to the 31; floor(x / 64) mod m.");
        int[] seeds = {0, 1, 2, 63, 64, 1000000, 1073741823, 1073741824, Integer.MAX_VALUE - 1, Integer.MAX_VALUE};
        for (int seed : seeds) {
            java.math.BigInteger next = java.math.BigInteger.valueOf(seed).multiply(java.math.BigInteger.valueOf(1103515245))
                    .add(java.math.BigInteger.valueOf(12345)).mod(java.math.BigInteger.ONE.shiftLeft(31));
            int drawn = next.intValue() / 64 % 100;
            Check.due("by " + seed + ", dry " + drawn, seeded("dry " + drawn + ";", seed).chance(1), 0);
            ZincSermon x = seeded("dry " + (drawn + 1) + ";", seed);
            Check.due("by " + seed + ", dry " + (drawn + 1), x.chance(1), 1);
            Check.due("the seed behind " + seed, x.has(11), next.intValue());
        }
        // 0 > 12345 > 1406932606 > 654583775: a WEEK each.
        int[] row = {12345, 1406932606, 654583775};
        ZincSermon x = seeded("", 0);
        for (int seed : row) {
            x.chance(1);
            Check.due("the seed", x.has(11), seed);
        }
        x = seeded("", 0);
        x.chance(3);
        Check.due("the seed behind three", x.has(11), 654583775);
    }
}
