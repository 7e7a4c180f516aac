/** Promises 32 to 35: images, refusals. */
public final class ImageTest {
    private static final String TEXT = "board a ribs 3 zinc 20;board b ribs 2 zinc 9;stain s deep 10 stuff 0;"
            + "hearer h sin 0 ear 0;hearer i sin 9 ear 4;saved came>sin;water 7;";

    public static void main(String[] args) {
        written();
        readBack();
        edges();
        refused();
        latest();
        status();
        Check.end();
    }

    private static void written() {
        ZincSermon x = new ZincSermon();
        Check.due("image() of nothing", x.image(), 4);
        // 211 > 1055 % 251 = 51 > 255 % 251 = 4 > 20.
        Check.due("its last byte", x.octet(3), 20);
        x = Check.chapel(TEXT);
        for (int k = 0; k < 7; k++) {
            x.weeks(40);
        }
        x.weeks(20);
        int[] want = Check.sealed(1, 44, 7, 10, 9, 0, 1, 0);
        Check.due("image()", x.image(), want.length);
        for (int k = 0; k < want.length; k++) {
            Check.due("octet(" + k + ")", x.octet(k), want[k]);
        }
        Check.due("octet(-1)", x.octet(-1), -1);
        Check.due("octet(" + want.length + ")", x.octet(want.length), -1);
        Check.due("octet(MAX)", x.octet(Integer.MAX_VALUE), -1);
    }

    private static void readBack() {
        ZincSermon x = Check.chapel(TEXT);
        x.weeks(2);
        x.pour(33);
        int[] bytes = Check.image(x);
        x.soil(0, 50);
        x.mend(0);
        x.weeks(9);
        x.seed(9);
        Check.due("on()", Check.on(x, bytes), true);
        int[] wants = {2, 1, 2, 2, 33, 1, 0, 1, 0, 0, 0, 9};
        for (int what = 0; what < 12; what++) {
            Check.due("has(" + what + ") behind on()", x.has(what), wants[what]);
        }
        Check.due("zinc", x.board(0, 1), 14);
        Check.due("deep", x.stain(0, 0), 4);
        Check.due("h", x.hearer(0, 2), 1);
        Check.due("i", x.hearer(1, 2), 0);
        Check.due("undo() behind on()", x.undo(), false);
        Check.due("kept behind on()", x.kept(0, 0), -1);
        Check.due("weeks go on", x.weeks(1), 3);
        Check.due("KEPT goes on", x.kept(0, 0), 2);
        Check.due("as told still", x.mend(0), true);
        Check.due("zinc as told", x.board(0, 1), 20);
    }

    private static void edges() {
        ZincSermon x = Check.chapel(TEXT);
        Check.due("on() most", Check.on(x, Check.sealed(3, 231, 99, 20, 9, 99, 1, 1)), true);
        Check.due("week", x.has(3), 999);
        Check.due("saved", x.has(7), 2);
        Check.due("on() least", Check.on(x, Check.sealed(0, 0, 0, 0, 0, 0, 0, 0)), true);
        Check.due("bare boards", x.has(6), 2);
        Check.due("nobody is saved", x.has(7), 0);
        int[] weeks = {255, 256, 257, 511, 512, 513, 767, 768, 998, 999};
        for (int week : weeks) {
            Check.due("on() at WEEK " + week, Check.on(x, Check.sealed(week / 256, week % 256, 0, 0, 0, 0, 0, 0)), true);
            Check.due("WEEK", x.has(3), week);
            x.image();
            Check.due("octet(0) at WEEK " + week, x.octet(0), week / 256);
            Check.due("octet(1) at WEEK " + week, x.octet(1), week % 256);
        }
        full();
        int[][] beyond = {{3, 232, 99, 20, 9, 99, 1, 1}, {4, 0, 99, 20, 9, 99, 1, 1}, {0, 0, 100, 20, 9, 99, 1, 1},
            {0, 0, 0, 21, 9, 99, 1, 1}, {0, 0, 0, 20, 10, 99, 1, 1}, {0, 0, 0, 20, 9, 100, 1, 1},
            {0, 0, 0, 20, 9, 99, 2, 1}, {0, 0, 0, 20, 9, 99, 1, 2}, {255, 255, 0, 20, 9, 99, 1, 1}};
        x.soil(0, 3);
        long before = Check.all(x);
        for (int k = 0; k < beyond.length; k++) {
            Check.due("on() beyond " + k, Check.on(x, Check.sealed(beyond[k])), false);
            Check.due("all stays", Check.all(x), before);
            Check.due("status(5)", x.status(5), k + 1);
        }
    }

    /** As many BOARDS, STAINS and HEARERS as there can be. */
    private static void full() {
        StringBuilder text = new StringBuilder("saved sin>2;");
        for (int k = 0; k < 6; k++) {
            char c = (char) ('a' + k);
            text.append("stain s").append(c).append(" deep ").append(90 + k).append(" stuff 1;");
            text.append("hearer h").append(c).append(" sin ").append(k).append(" ear 1;");
            text.append(k < 5 ? "board b" + c + " ribs 1 zinc " + (20 + k) + ";" : "");
        }
        ZincSermon x = Check.chapel(text.toString());
        x.sermon(0, 0, 1);
        int[] want = Check.sealed(0, 0, 0, 19, 21, 22, 23, 24, 89, 91, 92, 93, 94, 95, 0, 0, 0, 1, 1, 1);
        Check.due("image() of all", x.image(), 21);
        for (int k = 0; k < 21; k++) {
            Check.due("octet(" + k + ") of all", x.octet(k), want[k]);
        }
        Check.due("octet(21) of all", x.octet(21), -1);
        x.weeks(9);
        Check.due("on() of all", Check.on(x, want), true);
        Check.due("image() anew", x.image(), 21);
        for (int k = 0; k < 21; k++) {
            Check.due("octet(" + k + ") anew", x.octet(k), want[k]);
        }
    }

    private static void refused() {
        ZincSermon x = Check.chapel(TEXT);
        x.weeks(1);
        long before = Check.all(x);
        int[] good = Check.image(x);
        for (int k = 0; k < good.length; k++) {
            int[] other = good.clone();
            other[k] = other[k] ^ 1;
            Check.due("on() with byte " + k + " changed", Check.on(x, other), false);
            Check.due("on() cut at " + k, Check.on(x, java.util.Arrays.copyOf(good, k)), false);
        }
        Check.due("on() with a byte more", Check.on(x, java.util.Arrays.copyOf(good, good.length + 1)), false);
        Check.due("on() sealed anew", Check.on(x, Check.sealed(good)), false);
        Check.due("all stays", Check.all(x), before);
        Check.due("the tape goes", x.feed(0, 0, 0, 0, 0), 20);
        x.end(0);
        Check.due("on()", Check.on(x, good), true);
        // A last byte of the same rest by 251 is another byte.
        for (int water = 0; water < 100; water++) {
            int[] all = Check.sealed(0, 0, water, 20, 9, 99, 1, 1);
            if (all[8] <= 4) {
                all[8] += 251;
                Check.due("on() with a last byte above 250", Check.on(x, all), false);
            }
        }
    }

    private static void latest() {
        ZincSermon x = Check.chapel(TEXT);
        x.image();
        x.weeks(1);
        Check.due("the latest image() was ahead of it", x.octet(1), 0);
        x.image();
        Check.due("now it is behind it", x.octet(1), 1);
        Check.tape(x, "");
        x.chapel();
        Check.due("the latest image() still", x.octet(1), 1);
        Check.due("image()", x.image(), 4);
        Check.due("octet(4)", x.octet(4), -1);
    }

    private static void status() {
        ZincSermon x = new ZincSermon();
        x.end(1);
        Check.tape(x, "x");
        x.chapel();
        x.weeks(0);
        x.chance(0);
        x.sermon(0, 0, 0);
        x.soil(0, 0);
        x.mend(0);
        x.pour(0);
        x.undo();
        x.seed(-1);
        x.see();
        x.on();
        int[] wants = {1, 1, 2, 4, 1, 3};
        for (int what = 0; what < 6; what++) {
            Check.due("status(" + what + ")", x.status(what), wants[what]);
        }
        Check.due("status(6)", x.status(6), -1);
        Check.due("status(-1)", x.status(-1), -1);
        Check.due("status(MAX)", x.status(Integer.MAX_VALUE), -1);
    }
}
