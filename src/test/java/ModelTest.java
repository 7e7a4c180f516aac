import java.util.ArrayList;
import java.util.List;

/** Runs of calls by a row of draws, each asked of the class and of the Model; every answer must be the same. */
public final class ModelTest {
    private static final int RUNS = 400;
    private static final int TEXTS = 30000;
    /** What an object is used for at most. */
    private static final int CALLS = 512;
    private static final int[] EDGES = {-1, 0, 1, 2, 5, 6, 9, 39, 40, 41, 98, 99, 100, 255, 999, Integer.MAX_VALUE, Integer.MIN_VALUE};

    private static final int[] faults = new int[7];
    private static final int[] refused = new int[6];
    private static int matches = 0;
    private static int heads = 0;
    private static int restored = 0;
    private static int droughts = 0;

    private final ModelDraws draws;
    private final ZincSermon x = new ZincSermon();
    private final Model model = new Model();
    private final List<int[]> images = new ArrayList<>();
    private int calls = 0;
    private String log = "";

    private ModelTest(long seed) {
        draws = new ModelDraws(seed);
    }

    public static void main(String[] args) {
        for (int run = 0; run < RUNS; run++) {
            new ModelTest(run).run();
        }
        texts();
        theRunsMeanSomething();
        Check.end();
    }

    /** Runs are short, so most texts are read by themselves, a new object for each. */
    private static void texts() {
        ModelDraws draws = new ModelDraws(-1);
        for (int k = 0; k < TEXTS; k++) {
            String text = k % 10 == 0 ? draws.text() : draws.spoilt();
            ModelText model = new ModelText(text);
            ZincSermon x = new ZincSermon();
            Check.tape(x, text);
            if (text.length() <= 1600) {
                Check.due("chapel() of <" + text + ">", x.chapel(), model.fault == 0 ? model.statements : -1);
                Check.due("fault(0) of <" + text + ">", x.fault(0), model.fault);
                Check.due("fault(1) of <" + text + ">", x.fault(1), model.place);
                faults[model.fault]++;
            }
        }
    }

    /** A row of draws that never comes to a FAULT, a refusal or a MATCH would speak for nothing. */
    private static void theRunsMeanSomething() {
        for (int fault = 1; fault < faults.length; fault++) {
            Check.due("FAULT " + fault + " came often enough: " + faults[fault], faults[fault] >= 20, fault != 3);
        }
        for (int what = 0; what < refused.length; what++) {
            Check.due("status(" + what + ") came often enough: " + refused[what], refused[what] >= 20, true);
        }
        Check.due("a MATCH of two came often enough: " + matches, matches >= 20, true);
        Check.due("HEADS of three came often enough: " + heads, heads >= 20, true);
        Check.due("on() came often enough: " + restored, restored >= 20, true);
        Check.due("DROUGHTS came often enough: " + droughts, droughts >= 20, true);
    }

    private void run() {
        if (draws.below(20) != 0) {
            chapel(draws.text());
        }
        while (calls < CALLS - 140) {
            int choice = draws.below(100);
            if (choice == 0) {
                chapel(draws.text());
            } else if (choice < 4) {
                chapel(draws.spoilt());
            } else if (choice < 30) {
                act();
            } else if (choice < 34) {
                see();
            } else if (choice < 38) {
                image();
            } else {
                ask();
            }
        }
        for (int what = 0; what < 12; what++) {
            same("has(" + what + ")", x.has(what), model.has(what));
        }
        fullTape();
        for (int what = 0; what < refused.length; what++) {
            same("status(" + what + ")", x.status(what), model.status(what));
            refused[what] += model.refused[what];
        }
        Check.due("calls within what is promised: " + calls, calls <= CALLS, true);
    }

    private int same(String call, int got, int want) {
        calls++;
        log = log.length() > 1500 ? log.substring(700) : log;
        log += " " + call + ":" + want;
        Check.due(got == want ? call : call + " behind" + log, got, want);
        return want;
    }

    private boolean same(String call, boolean got, boolean want) {
        return same(call, got ? 1 : 0, want ? 1 : 0) == 1;
    }

    // ---- tapes

    private void tape(int... bytes) {
        for (int at = 0; at < bytes.length; at += 20) {
            int[] n = new int[5];
            for (int k = 0; k < 20; k++) {
                int octet = at + k < bytes.length ? bytes[at + k] : draws.below(256);
                n[k / 4] |= octet << 24 - k % 4 * 8;
            }
            same("feed()", x.feed(n[0], n[1], n[2], n[3], n[4]), model.feed(n[0], n[1], n[2], n[3], n[4]));
        }
        same("end(" + bytes.length + ")", x.end(bytes.length), model.end(bytes.length));
    }

    private void fullTape() {
        int n = draws.below(5000);
        same("end(0)", x.end(0), model.end(0));
        while (draws.below(3) == 0) {
            same("feed()", x.feed(n, n, n, n, n), model.feed(n, n, n, n, n));
        }
        if (n % 20 == 0) {
            for (int k = 0; k < 80; k++) {
                same("feed()", x.feed(n, n, n, n, n), model.feed(n, n, n, n, n));
            }
        }
    }

    private void chapel(String text) {
        if (calls + text.length() / 20 > CALLS - 120) {
            return;
        }
        tape(text.chars().toArray());
        same("chapel() of <" + text + ">", x.chapel(), model.chapel());
        faults[same("fault(0)", x.fault(0), model.fault(0))]++;
        same("fault(1)", x.fault(1), model.fault(1));
    }

    /** Rows that some STAIN fits mostly, else any. */
    private void see() {
        int rows = draws.below(12) == 0 ? draws.below(18) : 1 + draws.below(3);
        int[] bytes = new int[3 * rows + (draws.below(25) == 0 ? 1 + draws.below(2) : 0)];
        int stain = draws.below(Math.max(1, model.has(1)));
        for (int at = 0; at + 2 < bytes.length; at += 3) {
            bytes[at] = draws.below(20) == 0 ? draws.below(7) : draws.below(Math.max(1, model.has(0)));
            bytes[at + 1] = draws.below(25) == 0 ? draws.below(50) : 1 + draws.below(draws.below(2) == 0 ? 4 : 40);
            int left = model.strokes(bytes[at], stain, bytes[at + 1]);
            bytes[at + 2] = left < 0 || draws.below(15) == 0 ? draws.below(110) : left;
        }
        tape(bytes);
        same("see()", x.see(), model.see());
        same("has(9)", x.has(9), model.has(9));
        same("which()", x.which(), model.which());
    }

    private void image() {
        switch (draws.below(4)) {
            case 0:
                same("image()", x.image(), model.image());
                images.add(model.imageNow());
                break;
            case 1:
                on(spoiltImage());
                break;
            case 2:
                same("octet()", x.octet(3), model.octet(3));
                if (!images.isEmpty()) {
                    on(images.get(draws.below(images.size())));
                }
                break;
            default:
                for (int k = -1; k < 22; k += 1 + draws.below(4)) {
                    same("octet(" + k + ")", x.octet(k), model.octet(k));
                }
        }
    }

    private void on(int[] bytes) {
        tape(bytes);
        restored += same("on()", x.on(), model.on()) ? 1 : 0;
    }

    /** One byte is another, the last one fits or doesn't, the length is right or isn't. */
    private int[] spoiltImage() {
        int[] bytes = model.imageNow();
        int[] body = java.util.Arrays.copyOf(bytes, bytes.length - 1);
        int at = draws.below(body.length);
        int[] others = {0, 1, 2, body[at] + 1, 99, 100, draws.below(256), 3, 231, 232};
        body[at] = others[draws.below(others.length)];
        if (draws.below(4) == 0) {
            body[0] = 3;
            body[1] = 225 + draws.below(9);
        }
        if (draws.below(8) == 0) {
            body = java.util.Arrays.copyOf(body, body.length + (draws.below(2) == 0 ? 1 : -1));
        }
        int[] whole = Check.sealed(body);
        if (draws.below(8) == 0) {
            whole[whole.length - 1] += draws.below(2) == 0 ? 1 : 251 - whole[whole.length - 1];
        }
        return whole;
    }

    // ---- numbers for calls: mostly such as can be

    private int any(int most) {
        return draws.below(12) == 0 ? EDGES[draws.below(EDGES.length)] : draws.below(most);
    }

    private int aBoard() {
        return any(Math.max(1, model.has(0)));
    }

    private int aStain() {
        return any(Math.max(1, model.has(1)));
    }

    private int weeks() {
        return any(draws.below(2) == 0 ? 4 : 41);
    }

    private void act() {
        int a = aBoard();
        int b = aStain();
        int n = weeks();
        switch (draws.below(9)) {
            case 0:
                same("weeks(" + n + ")", x.weeks(n), model.weeks(n));
                break;
            case 1:
                droughts += Math.max(0, same("chance(" + n + ")", x.chance(n), model.chance(n)));
                break;
            case 2:
            case 3:
                same("sermon(" + a + ", " + b + ", " + n + ")", x.sermon(a, b, n), model.sermon(a, b, n));
                break;
            case 4:
                n = any(draws.below(2) == 0 ? 12 : 100);
                same("soil(" + b + ", " + n + ")", x.soil(b, n), model.soil(b, n));
                break;
            case 5:
                same("mend(" + a + ")", x.mend(a), model.mend(a));
                break;
            case 6:
                n = any(draws.below(2) == 0 ? 3 : 100);
                same("pour(" + n + ")", x.pour(n), model.pour(n));
                break;
            case 7:
                for (int k = draws.below(draws.below(8) == 0 ? 24 : 3); k >= 0; k--) {
                    same("undo()", x.undo(), model.undo());
                }
                break;
            default:
                seedOrTape();
        }
    }

    private void seedOrTape() {
        int n = draws.below(3) == 0 ? EDGES[draws.below(EDGES.length)] : draws.below(Integer.MAX_VALUE);
        if (draws.below(2) == 0) {
            same("seed(" + n + ")", x.seed(n), model.seed(n));
            return;
        }
        // What is on the tape now is ahead of what the next call puts there.
        int m = draws.below(30);
        same("feed()", x.feed(n, m, n, m, n), model.feed(n, m, n, m, n));
        same("end(" + m + ")", x.end(m), model.end(m));
        if (draws.below(3) != 0) {
            same("end(0)", x.end(0), model.end(0));
        }
    }

    private void ask() {
        int a = aBoard();
        int b = aStain();
        int n = weeks();
        int what = any(4);
        switch (draws.below(20)) {
            case 0:
                what = any(13);
                same("has(" + what + ")", x.has(what), model.has(what));
                break;
            case 1:
                same("letter(" + what + ", " + b + ", " + n + ")", x.letter(what, b, n), model.letter(what, b, n));
                break;
            case 2:
                same("board(" + a + ", " + what + ")", x.board(a, what), model.board(a, what));
                break;
            case 3:
                same("stain(" + b + ", " + what + ")", x.stain(b, what), model.stain(b, what));
                break;
            case 4:
                same("hearer(" + b + ", " + what + ")", x.hearer(b, what), model.hearer(b, what));
                break;
            case 5:
                same("strokes(" + a + ", " + b + ", " + n + ")", x.strokes(a, b, n), model.strokes(a, b, n));
                break;
            case 6:
            case 7:
                same("needed(" + a + ", " + b + ", " + what + ")", x.needed(a, b, what), model.needed(a, b, what));
                break;
            case 8:
                same("best(" + b + ")", x.best(b), model.best(b));
                break;
            case 9:
                same("match(" + b + ")", x.match(b), model.match(b));
                matches += same("match(NONE)", x.match(-1), model.match(-1)) > 0 && model.has(5) >= 2 ? 1 : 0;
                break;
            case 10:
                heads += same("heads(" + a + ", 0)", x.heads(a, 0), model.heads(a, 0)) >= 3 ? 1 : 0;
                what = any(9);
                same("heads(" + a + ", " + what + ")", x.heads(a, what), model.heads(a, what));
                break;
            case 11:
                same("later(" + b + ", " + n + ")", x.later(b, n), model.later(b, n));
                break;
            case 12:
                same("worn(" + a + ", " + n + ")", x.worn(a, n), model.worn(a, n));
                break;
            case 13:
                same("saved(" + n + ")", x.saved(n), model.saved(n));
                break;
            case 14:
                same("clean()", x.clean(), model.clean());
                break;
            default:
                askMore(a, n, what);
        }
    }

    private void askMore(int board, int n, int what) {
        switch (draws.below(5)) {
            case 0:
                same("which()", x.which(), model.which());
                break;
            case 1:
                same("tells(" + board + ", " + what + ")", x.tells(board, what), model.tells(board, what));
                break;
            case 2:
            case 3:
                same("kept(" + n + ", " + what + ")", x.kept(n, what), model.kept(n, what));
                break;
            default:
                same("status(" + what + ")", x.status(what), model.status(what));
                same("fault(" + what + ")", x.fault(what), model.fault(what));
        }
    }
}
