import java.util.Arrays;

/** The boundary cases of promises 32 to 35 and of Terms III: images, what was refused; and the constant. */
final class ImageEdges {
    private static final int MAX = Integer.MAX_VALUE;
    private static final int MIN = Integer.MIN_VALUE;
    private static final String TEXT = "board a ribs 3 zinc 20;board b ribs 2 zinc 9;stain s deep 10 stuff 0;"
            + "hearer h sin 0 ear 0;hearer i sin 9 ear 4;saved came>sin;water 7;";
    /** WEEK, water, zinc of a and b, how deep s is, h, i: as at first. */
    private static final int[] FIRST = {0, 0, 7, 20, 9, 10, 0, 0};

    private ImageEdges() {
    }

    static void run() {
        constant();
        bytesTerm();
        lastByteTerm();
        imagePromise();
        octets();
        octetsOfNone();
        onPromise();
        nothingKept();
        tapeGoes();
        onAtTheEdges();
        onBeyond();
        noneSuch();
        anotherChapel();
        status();
        statusOfOthers();
    }

    private static void constant() {
        Check.terms("The constants: `NONE = -1`: None; refused.");
        Check.due("NONE", ZincSermon.NONE, -1);
        Check.due("None", new ZincSermon().board(0, 0), ZincSermon.NONE);
        Check.due("refused", new ZincSermon().weeks(0), ZincSermon.NONE);
    }

    private static void image(String what, ZincSermon x, int... ahead) {
        int[] want = Check.sealed(ahead);
        Check.due("image() " + what, x.image(), want.length);
        for (int k = 0; k < want.length; k++) {
            Check.due("octet(" + k + ") " + what, x.octet(k), want[k]);
        }
    }

    private static void bytesTerm() {
        Check.terms("AN IMAGE: WEEK (two bytes, the higher first), water; for each BOARD its zinc; for each STAIN how deep; for each HEARER 1 if saved, else 0;");
        image("of nothing", new ZincSermon(), 0, 0, 0);
        image("at first", Check.chapel(TEXT), FIRST);
        ZincSermon x = Check.chapel(TEXT);
        x.weeks(1);
        image("behind a WEEK", x, 0, 1, 7, 17, 9, 7, 1, 0);
        x.pour(0);
        x.sermon(1, 0, 40);
        image("behind a SERMON", x, 0, 1, 0, 17, 2, 0, 1, 0);
        int[] weeks = {1, 255, 256, 257, 511, 512, 767, 768, 998, 999};
        for (int week : weeks) {
            x = new ZincSermon();
            for (int k = 0; k < week / 40; k++) {
                x.weeks(40);
            }
            x.weeks(week % 40);
            image("at WEEK " + week, x, week / 256, week % 256, 0);
        }
        // As many of each sort as there can be.
        StringBuilder text = new StringBuilder("saved sin>2;water 99;");
        for (int k = 0; k < 6; k++) {
            char c = (char) ('a' + k);
            text.append("hearer h").append(c).append(" sin ").append(k).append(" ear 1;stain s").append(c).append(" deep ").append(94 + k).append(" stuff 1;");
            text.append(k < 5 ? "board b" + c + " ribs 1 zinc " + (95 + k) + ";" : "");
        }
        x = Check.chapel(text.toString());
        x.sermon(0, 0, 1);
        image("of all", x, 0, 0, 99, 94, 96, 97, 98, 99, 93, 95, 96, 97, 98, 99, 0, 0, 0, 1, 1, 1);
        Check.due("octet(21) of all", x.octet(21), -1);
    }

    /** By hand: 211 > 1055, less 4 times 251 is 51 > 255, less 251 is 4 > 20. */
    private static void lastByteTerm() {
        Check.terms("last a byte: all ahead from 211 on, c = (5 c + it) mod 251.");
        ZincSermon x = new ZincSermon();
        x.image();
        Check.due("the last byte of 0 0 0", x.octet(3), 20);
        x.weeks(1);
        x.image();
        Check.due("the last byte of 0 1 0", x.octet(3), 25);
        x.pour(99);
        x.image();
        Check.due("the last byte of 0 1 99", x.octet(3), 124);
        Check.on(x, 3, 231, 26, ((((211 * 5 + 3) % 251 * 5 + 231) % 251) * 5 + 26) % 251);
        Check.due("WEEK", x.has(3), 999);
        // It is never above 250.
        for (int water = 0; water < 100; water++) {
            ZincSermon y = new ZincSermon();
            y.pour(water);
            y.image();
            Check.due("the last byte of 0 0 " + water, y.octet(3), (20 + water) % 251);
        }
    }

    private static void imagePromise() {
        Check.promise(32, "AN IMAGE is written: how many bytes.");
        Check.due("image() of nothing", new ZincSermon().image(), 4);
        Check.due("image() of a BOARD", Check.chapel("board a ribs 1 zinc 1;").image(), 5);
        Check.due("image() of a STAIN", Check.chapel("stain a deep 1 stuff 1;").image(), 5);
        Check.due("image() of a HEARER", Check.chapel("hearer a sin 1 ear 1;").image(), 5);
        ZincSermon x = Check.chapel(TEXT);
        long before = Check.all(x);
        Check.due("image()", x.image(), 9);
        Check.due("image() again", x.image(), 9);
        Check.due("all stays", Check.all(x), before);
    }

    private static void octets() {
        Check.promise(33, "Byte k of the latest image();");
        ZincSermon x = Check.chapel(TEXT);
        x.image();
        x.weeks(1);
        Check.due("octet(1) of the one ahead", x.octet(1), 0);
        Check.due("octet(5) of the one ahead", x.octet(5), 10);
        x.image();
        Check.due("octet(1) of the latest", x.octet(1), 1);
        Check.due("octet(5) of the latest", x.octet(5), 7);
        Check.due("octet(8), the last one", x.octet(8), Check.sealed(0, 1, 7, 17, 9, 7, 1, 0)[8]);
        x.undo();
        Check.due("octet(1) behind undo()", x.octet(1), 1);
    }

    private static void octetsOfNone() {
        Check.promise(33, "NONE when there is none such.");
        int[] none = {9, 10, 20, 21, MAX, -1, MIN};
        ZincSermon x = Check.chapel(TEXT);
        Check.due("octet(0) ahead of any image()", x.octet(0), -1);
        x.image();
        for (int k : none) {
            Check.due("octet(" + k + ")", x.octet(k), -1);
            Check.due("octet(" + k + ") ahead of any image()", new ZincSermon().octet(k), -1);
        }
        // A shorter one behind a longer one.
        x.chapel();
        x.image();
        Check.due("octet(3) of four", x.octet(3), 20);
        Check.due("octet(4) of four", x.octet(4), -1);
        Check.unrefused(x);
    }

    private static void onPromise() {
        Check.promise(34, "is AN IMAGE of this CHAPEL: true, all is as it tells,");
        ZincSermon x = Check.chapel(TEXT);
        x.weeks(2);
        x.pour(33);
        int[] bytes = Check.image(x);
        x.soil(0, 50);
        x.mend(0);
        x.weeks(9);
        x.seed(9);
        Check.due("on()", Check.on(x, bytes), true);
        int[] wants = {2, 1, 2, 2, 33, 1, 0, 1, 0, 0, 0, 9};
        for (int what = 0; what < wants.length; what++) {
            Check.due("has(" + what + ")", x.has(what), wants[what]);
        }
        Check.due("zinc of a", x.board(0, 1), 14);
        Check.due("zinc of b", x.board(1, 1), 9);
        Check.due("deep", x.stain(0, 0), 4);
        Check.due("h", x.hearer(0, 2), 1);
        Check.due("i", x.hearer(1, 2), 0);
        image("of what it tells", x, Arrays.copyOf(bytes, 8));
        // Who is saved is told, not what was: i alone.
        Check.due("on()", Check.on(x, Check.sealed(0, 0, 0, 0, 0, 0, 0, 1)), true);
        Check.due("h", x.hearer(0, 2), 0);
        Check.due("i", x.hearer(1, 2), 1);
        Check.due("saved(0)", x.saved(0), 2);
        Check.due("as told is still as told", x.mend(0), true);
        Check.due("zinc of a", x.board(0, 1), 20);
        Check.unrefused(x);
        Check.due("of nothing", Check.on(new ZincSermon(), 0, 0, 0, 20), true);
    }

    private static void nothingKept() {
        Check.promise(34, "nothing is KEPT, no ACT can be undone;");
        ZincSermon x = Check.chapel(TEXT);
        x.weeks(2);
        x.pour(8);
        Check.due("on()", Check.on(x, Check.image(x)), true);
        Check.due("KEPT", x.has(8), 0);
        Check.due("kept(0, 0)", x.kept(0, 0), -1);
        Check.due("ACTS", x.has(10), 0);
        Check.no("undo()", x, 4, y -> y.undo());
        Check.due("a WEEK more", x.weeks(1), 3);
        Check.due("KEPT", x.has(8), 1);
        Check.due("kept(0, 0)", x.kept(0, 0), 2);
        Check.due("undo()", x.undo(), true);
        Check.due("KEPT", x.has(8), 0);
        Check.due("WEEK", x.has(3), 2);
        Check.due("undo() no more", x.undo(), false);
    }

    private static void tapeGoes() {
        Check.promise(34, "The tape (it goes)");
        ZincSermon x = Check.chapel(TEXT);
        Check.due("on()", Check.on(x, Check.sealed(FIRST)), true);
        Check.due("nothing on the tape", x.end(1), false);
        Check.due("on() of nothing", x.on(), false);
        Check.due("on() refused", Check.on(x, 1, 2, 3), false);
        Check.due("nothing on the tape", x.end(1), false);
        Check.due("feed()", x.feed(0, 0, 0, 0, 0), 20);
    }

    private static void onAtTheEdges() {
        Check.promise(34, "(WEEK 999, water, depths 99, zinc as told at most).");
        int[][] edges = {{3, 231, 99, 20, 9, 99, 1, 1}, {0, 0, 0, 0, 0, 0, 0, 0}, {3, 231, 0, 0, 0, 0, 0, 0}, {0, 0, 99, 0, 0, 0, 0, 0},
            {0, 0, 0, 20, 0, 0, 0, 0}, {0, 0, 0, 0, 9, 0, 0, 0}, {0, 0, 0, 0, 0, 99, 0, 0}, {2, 255, 0, 0, 0, 0, 0, 0}, {3, 0, 0, 0, 0, 0, 1, 0}};
        for (int[] edge : edges) {
            ZincSermon x = Check.chapel(TEXT);
            Check.due("on() of " + Arrays.toString(edge), Check.on(x, Check.sealed(edge)), true);
            image("of " + Arrays.toString(edge), x, edge);
            Check.due("WEEK", x.has(3), edge[0] * 256 + edge[1]);
        }
    }

    private static void onBeyond() {
        Check.promise(34, "if it is none such (WEEK 999, water, depths 99, zinc as told at most).");
        int[][] beyond = {{3, 232, 0, 0, 0, 0, 0, 0}, {4, 0, 0, 0, 0, 0, 0, 0}, {255, 255, 0, 0, 0, 0, 0, 0}, {128, 0, 0, 0, 0, 0, 0, 0},
            {0, 0, 100, 0, 0, 0, 0, 0}, {0, 0, 255, 0, 0, 0, 0, 0}, {0, 0, 0, 21, 0, 0, 0, 0}, {0, 0, 0, 0, 10, 0, 0, 0}, {0, 0, 0, 9, 20, 0, 0, 0},
            {0, 0, 0, 255, 0, 0, 0, 0}, {0, 0, 0, 0, 0, 100, 0, 0}, {0, 0, 0, 0, 0, 255, 0, 0}, {0, 0, 0, 0, 0, 0, 2, 0}, {0, 0, 0, 0, 0, 0, 0, 2},
            {0, 0, 0, 0, 0, 0, 255, 0}};
        for (int[] bytes : beyond) {
            refused("on() of " + Arrays.toString(bytes), Check.sealed(bytes));
        }
    }

    private static void refused(String call, int[] bytes) {
        ZincSermon x = Check.chapel(TEXT);
        x.weeks(2);
        x.pour(8);
        Check.see(x, 0, 1, 1);
        Check.tape(x, bytes);
        Check.no(call, x, 5, y -> y.on());
        Check.due("undo() behind " + call, x.undo(), true);
    }

    private static void noneSuch() {
        Check.promise(34, "false, refused (5), all staying, if it is none such");
        int[] good = Check.sealed(FIRST);
        Check.due("on()", Check.on(Check.chapel(TEXT), good), true);
        for (int k = 0; k < good.length; k++) {
            int[] other = good.clone();
            other[k] ^= 1;
            refused("on() with byte " + k + " changed", other);
            refused("on() of the first " + k, Arrays.copyOf(good, k));
        }
        refused("on() of a byte more", Arrays.copyOf(good, good.length + 1));
        refused("on() sealed anew", Check.sealed(good));
        refused("on() without a HEARER", Check.sealed(Arrays.copyOf(FIRST, 7)));
        refused("on() with a HEARER more", Check.sealed(Arrays.copyOf(FIRST, 9)));
        refused("on() of a full tape", new int[1600]);
        // The last byte itself, not one of the same rest by 251.
        int found = 0;
        for (int water = 0; water < 100; water++) {
            int[] all = Check.sealed(0, 0, water, 20, 9, 10, 0, 0);
            if (all[8] <= 4) {
                found++;
                all[8] += 251;
                refused("on() with a last byte of " + all[8], all);
            }
        }
        Check.due("such last bytes were there", found > 0, true);
        Check.no("on() of nothing", new ZincSermon(), 5, y -> y.on());
    }

    private static void anotherChapel() {
        Check.promise(34, "of this CHAPEL:");
        // As long, but of a CHAPEL with two STAINS and one BOARD: 10 is too much zinc for b.
        ZincSermon x = Check.chapel("board a ribs 3 zinc 20;stain s deep 10 stuff 0;stain t deep 10 stuff 0;hearer h sin 0 ear 0;hearer i sin 9 ear 4;");
        int[] bytes = Check.image(x);
        Check.due("as long", bytes.length, 9);
        refused("on() of another CHAPEL", bytes);
        // The same for another text with as many of each sort and zinc enough.
        ZincSermon y = Check.chapel("board c ribs 1 zinc 99;board d ribs 1 zinc 9;stain q deep 1 stuff 1;hearer j sin 1 ear 1;hearer k sin 1 ear 1;");
        Check.due("on() of one that can be its own", Check.on(y, Check.sealed(FIRST)), true);
        Check.due("zinc", y.board(0, 1), 20);
        Check.due("deep", y.stain(0, 0), 10);
    }

    private static void status() {
        Check.promise(35, "How many were refused: 0 feed(), end(); 1 chapel(); 2 weeks(), chance(); 3 sermon(), soil(), mend(), pour(); 4 undo(); 5 seed(), see(), on().");
        ZincSermon x = new ZincSermon();
        int[] counts = new int[6];
        for (int what = 0; what < 6; what++) {
            Check.due("status(" + what + ") of a new object", x.status(what), 0);
        }
        for (int round = 0; round < 2; round++) {
            for (int call = 0; call < 13; call++) {
                counts[refuse(x, call)]++;
                for (int what = 0; what < 6; what++) {
                    Check.due("status(" + what + ") behind call " + call, x.status(what), counts[what]);
                }
            }
        }
        // A new CHAPEL and an IMAGE leave them as they are.
        x.end(0);
        Check.due("chapel()", x.chapel(), 0);
        Check.due("on()", Check.on(x, 0, 0, 0, 20), true);
        for (int what = 0; what < 6; what++) {
            Check.due("status(" + what + ") behind chapel() and on()", x.status(what), counts[what]);
        }
    }

    /** A call that is refused, and which of status() counts it. */
    private static int refuse(ZincSermon x, int call) {
        switch (call) {
            case 0:
                for (int k = 0; k < 80; k++) {
                    x.feed(0, 0, 0, 0, 0);
                }
                Check.due("feed()", x.feed(0, 0, 0, 0, 0), -1);
                return 0;
            case 1:
                Check.due("end()", x.end(1601), false);
                return 0;
            case 2:
                Check.due("chapel()", x.chapel(), -1);
                return 1;
            case 3:
                Check.due("weeks()", x.weeks(0), -1);
                return 2;
            case 4:
                Check.due("chance()", x.chance(0), -1);
                return 2;
            case 5:
                Check.due("sermon()", x.sermon(0, 0, 1), -1);
                return 3;
            case 6:
                Check.due("soil()", x.soil(0, 1), -1);
                return 3;
            case 7:
                Check.due("mend()", x.mend(0), false);
                return 3;
            case 8:
                Check.due("pour()", x.pour(0), false);
                return 3;
            case 9:
                Check.due("undo()", x.undo(), false);
                return 4;
            case 10:
                Check.due("seed()", x.seed(-1), false);
                return 5;
            case 11:
                Check.due("see()", x.see(), -1);
                return 5;
            default:
                Check.due("on()", x.on(), false);
                return 5;
        }
    }

    private static void statusOfOthers() {
        Check.promise(35, "NONE for others.");
        ZincSermon x = new ZincSermon();
        int[] others = {6, 7, 255, MAX, -1, -2, MIN};
        for (int what : others) {
            Check.due("status(" + what + ")", x.status(what), -1);
        }
        Check.unrefused(x);
    }
}
