import java.util.ArrayList;
import java.util.Arrays;
import java.util.HashMap;
import java.util.List;
import java.util.Map;

/**
 * A second ZincSermon that shares no code with the first: the same calls by the document's words, by trial and
 * by whole copies, without regard to time, room or LANGUAGE.md. Where a call is refused it answers NONE or false.
 */
final class Model {
    private static final int NONE = -1;

    private final List<Integer> tape = new ArrayList<>();
    private ModelText text = new ModelText("");
    private final Map<String, ModelRule> rules = new HashMap<>();
    private int fault = 0;
    private int place = NONE;
    private Now now = new Now(text);
    private final List<Now> acts = new ArrayList<>();
    private List<int[]> seen = new ArrayList<>();
    private int[] image = {};
    private long seed = 1;
    final int[] refused = new int[6];

    /** All that ACTS change. */
    private static final class Now {
        int week = 0;
        int water;
        int[] zinc;
        int[] deep;
        boolean[] saved;
        List<int[]> kept = new ArrayList<>();

        Now(ModelText text) {
            water = text.water;
            zinc = text.boards.stream().mapToInt(name -> text.things.get(name)[1]).toArray();
            deep = text.stains.stream().mapToInt(name -> text.things.get(name)[0]).toArray();
            saved = new boolean[text.hearers.size()];
        }

        Now(Now other) {
            week = other.week;
            water = other.water;
            zinc = other.zinc.clone();
            deep = other.deep.clone();
            saved = other.saved.clone();
            kept = new ArrayList<>(other.kept);
        }
    }

    private int refuse(int kind) {
        refused[kind]++;
        return NONE;
    }

    private static boolean in(int k, int least, int most) {
        return k >= least && k <= most;
    }

    private boolean isBoard(int board) {
        return in(board, 0, now.zinc.length - 1);
    }

    private boolean isStain(int stain) {
        return in(stain, 0, now.deep.length - 1);
    }

    private int ribs(int board) {
        return text.things.get(text.boards.get(board))[0];
    }

    private int zincTold(int board) {
        return text.things.get(text.boards.get(board))[1];
    }

    private int stuff(int stain) {
        return text.things.get(text.stains.get(stain))[1];
    }

    // ---- the tape, the text

    int feed(int a, int b, int c, int d, int e) {
        if (tape.size() + 20 > 1600) {
            return refuse(0);
        }
        for (int number : new int[] {a, b, c, d, e}) {
            for (byte octet : java.nio.ByteBuffer.allocate(4).putInt(number).array()) {
                tape.add(Byte.toUnsignedInt(octet));
            }
        }
        return tape.size();
    }

    boolean end(int n) {
        if (!in(n, 0, tape.size())) {
            return refuse(0) != NONE;
        }
        tape.subList(n, tape.size()).clear();
        return true;
    }

    private int[] takeTape() {
        int[] bytes = tape.stream().mapToInt(k -> k).toArray();
        tape.clear();
        return bytes;
    }

    int chapel() {
        StringBuilder told = new StringBuilder();
        for (int octet : takeTape()) {
            told.append((char) octet);
        }
        ModelText read = new ModelText(told.toString());
        fault = read.fault;
        place = read.place;
        if (fault != 0) {
            return refuse(1);
        }
        text = read;
        rules.clear();
        text.rules.forEach((word, row) -> rules.put(word, word.startsWith("s") ? ModelRule.test(row) : ModelRule.sum(row)));
        now = new Now(text);
        acts.clear();
        seen = new ArrayList<>();
        return text.statements;
    }

    int fault(int what) {
        return what == 0 ? fault : what == 1 ? place : NONE;
    }

    // ---- what there is

    int has(int what) {
        int[] all = {now.zinc.length, now.deep.length, now.saved.length, now.week, now.water,
            (int) Arrays.stream(now.deep).filter(k -> k > 0).count(), (int) Arrays.stream(now.zinc).filter(k -> k == 0).count(),
            Integer.bitCount(bits(now)), told().size(), seen.size(), acts.size(), (int) seed};
        return in(what, 0, 11) ? all[what] : NONE;
    }

    private static int bits(Now then) {
        int bits = 0;
        for (int k = 0; k < then.saved.length; k++) {
            bits += then.saved[k] ? 1 << k : 0;
        }
        return bits;
    }

    int letter(int kind, int which, int k) {
        if (!in(kind, 0, 2) || !in(k, 0, 5)) {
            return NONE;
        }
        List<String> names = List.of(text.boards, text.stains, text.hearers).get(kind);
        if (!in(which, 0, names.size() - 1)) {
            return NONE;
        }
        return k < names.get(which).length() ? names.get(which).charAt(k) - 96 : 0;
    }

    int board(int board, int what) {
        return !isBoard(board) || !in(what, 0, 1) ? NONE : what == 0 ? ribs(board) : now.zinc[board];
    }

    int stain(int stain, int what) {
        return !isStain(stain) || !in(what, 0, 1) ? NONE : what == 0 ? now.deep[stain] : stuff(stain);
    }

    int hearer(int hearer, int what) {
        if (!in(hearer, 0, now.saved.length - 1) || !in(what, 0, 2)) {
            return NONE;
        }
        return what == 2 ? (now.saved[hearer] ? 1 : 0) : text.things.get(text.hearers.get(hearer))[what];
    }

    // ---- strokes

    private int rule(String name, int without, Map<String, Integer> words) {
        return rules.containsKey(name) ? rules.get(name).value(words) : without;
    }

    private Map<String, Integer> words(Now then, int board, int stain) {
        Map<String, Integer> words = new HashMap<>();
        words.put("ribs", board == NONE ? 0 : ribs(board));
        words.put("zinc", board == NONE ? 0 : then.zinc[board]);
        words.put("deep", stain == NONE ? 0 : then.deep[stain]);
        words.put("stuff", stain == NONE ? 0 : stuff(stain));
        words.put("water", then.water);
        words.put("week", then.week);
        return words;
    }

    /** Strokes till nothing is left; how many were done. */
    private int rub(Now then, int board, int stain, int n) {
        int rub = 0;
        while (rub < n && then.deep[stain] > 0) {
            rub++;
            Map<String, Integer> words = words(then, board, stain);
            words.put("rub", rub);
            words.put("bone", then.zinc[board] == 0 ? 1 : 0);
            int out = Math.max(0, rule("out", 1, words));
            int wear = Math.max(0, Math.min(9, rule("wear", 1, words)));
            then.deep[stain] -= Math.min(out, then.deep[stain]);
            then.zinc[board] = Math.max(0, then.zinc[board] - wear);
        }
        return rub;
    }

    /** NEEDED, done; NONE when 99 are not enough. */
    private int bringOut(Now then, int board, int stain) {
        int n = rub(then, board, stain, 99);
        return then.deep[stain] == 0 ? n : NONE;
    }

    int strokes(int board, int stain, int n) {
        if (!isBoard(board) || !isStain(stain) || !in(n, 0, 40)) {
            return NONE;
        }
        Now then = new Now(now);
        rub(then, board, stain, n);
        return then.deep[stain];
    }

    int needed(int board, int stain, int what) {
        if (!isBoard(board) || !isStain(stain) || !in(what, 0, 1)) {
            return NONE;
        }
        Now then = new Now(now);
        int n = bringOut(then, board, stain);
        return n == NONE || what == 0 ? n : then.zinc[board] > 0 ? 1 : 0;
    }

    int best(int stain) {
        int best = NONE;
        for (int board = now.zinc.length - 1; board >= 0 && isStain(stain); board--) {
            int n = needed(board, stain, 0);
            if (n != NONE && (best == NONE || n <= needed(best, stain, 0))) {
                best = board;
            }
        }
        return best;
    }

    /** All rows of BOARDS for the STAINS of which something is left, in any order: the best of them. */
    int match(int stain) {
        if (stain != NONE && !isStain(stain)) {
            return NONE;
        }
        List<int[]> rows = new ArrayList<>();
        matches(rows, new int[now.deep.length + 1], 0);
        int[] best = null;
        for (int[] row : rows) {
            if (best == null || compare(row, best, now.deep.length) < 0) {
                best = row;
            }
        }
        return best == null ? NONE : best[stain == NONE ? now.deep.length : stain];
    }

    /** Strokes together stand behind the row. */
    private void matches(List<int[]> rows, int[] row, int stain) {
        if (stain == now.deep.length) {
            rows.add(row);
            return;
        }
        if (now.deep[stain] == 0) {
            int[] next = row.clone();
            next[stain] = NONE;
            matches(rows, next, stain + 1);
            return;
        }
        for (int board = now.zinc.length - 1; board >= 0; board--) {
            int taken = board;
            boolean free = Arrays.stream(row, 0, stain).noneMatch(k -> k == taken);
            if (free && needed(board, stain, 1) == 1) {
                int[] next = row.clone();
                next[stain] = board;
                next[now.deep.length] += needed(board, stain, 0);
                matches(rows, next, stain + 1);
            }
        }
    }

    /** By the strokes at a place, then as rows. */
    private static int compare(int[] row, int[] other, int strokesAt) {
        int fewer = Integer.compare(row[strokesAt], other[strokesAt]);
        return fewer != 0 ? fewer : Arrays.compare(row, other);
    }

    int heads(int board, int what) {
        if (!isBoard(board) || what < 0) {
            return NONE;
        }
        List<int[]> rows = new ArrayList<>();
        headRows(rows, new Now(now), board, new int[] {0});
        int[] best = rows.get(0);
        for (int[] row : rows) {
            boolean more = row.length > best.length;
            if (more || row.length == best.length && compare(row, best, 0) < 0) {
                best = row;
            }
        }
        if (what < 2) {
            return what == 0 ? best.length - 1 : best[0];
        }
        return what - 2 < best.length - 1 ? best[what - 1] : NONE;
    }

    /** Strokes together stand ahead of the row. */
    private void headRows(List<int[]> rows, Now then, int board, int[] row) {
        rows.add(row);
        for (int stain = then.deep.length - 1; stain >= 0; stain--) {
            if (then.deep[stain] > 0) {
                Now next = new Now(then);
                int n = bringOut(next, board, stain);
                if (n != NONE && next.zinc[board] > 0) {
                    int[] longer = Arrays.copyOf(row, row.length + 1);
                    longer[row.length] = stain;
                    longer[0] += n;
                    headRows(rows, next, board, longer);
                }
            }
        }
    }

    // ---- SERMONS, WEEKS

    /** How much came out. */
    private int preach(Now then, int board, int stain, int n) {
        int deep = then.deep[stain];
        rub(then, board, stain, n);
        int came = deep - then.deep[stain];
        for (int k = 0; k < then.saved.length; k++) {
            then.saved[k] |= holds("saved", then, board, stain, k, came);
        }
        then.kept.add(new int[] {then.week, board, stain, came});
        return came;
    }

    private boolean holds(String test, Now then, int board, int stain, int hearer, int came) {
        Map<String, Integer> words = words(then, board, stain);
        words.put("sin", text.things.get(text.hearers.get(hearer))[0]);
        words.put("ear", text.things.get(text.hearers.get(hearer))[1]);
        words.put("came", came);
        return rule(test, 0, words) == 1;
    }

    /** How much came out in the WEEK. */
    private int passWeek(Now then, boolean drought) {
        boolean[] ahead = then.saved.clone();
        int stain = NONE;
        for (int k = then.deep.length - 1; k >= 0; k--) {
            if (then.deep[k] > 0 && (stain == NONE || then.deep[k] >= then.deep[stain])) {
                stain = k;
            }
        }
        int board = NONE;
        int came = 0;
        if (drought || stain == NONE || then.zinc.length == 0) {
            stain = NONE;
        } else {
            for (int k = then.zinc.length - 1; k >= 0; k--) {
                if (board == NONE || rule("picks", 0, words(then, k, stain)) >= rule("picks", 0, words(then, board, stain))) {
                    board = k;
                }
            }
            came = preach(then, board, stain, ribs(board));
        }
        boolean[] lost = new boolean[ahead.length];
        for (int k = 0; k < ahead.length; k++) {
            lost[k] = ahead[k] && holds("slide", then, board, stain, k, came);
        }
        for (int k = 0; k < ahead.length; k++) {
            then.saved[k] &= !lost[k];
        }
        then.week = Math.min(999, then.week + 1);
        return came;
    }

    private boolean canPass(int n, int least) {
        return in(n, least, 40) && now.week + n <= 999;
    }

    private Now ahead(int n) {
        Now then = new Now(now);
        for (int k = 0; k < n; k++) {
            passWeek(then, false);
        }
        return then;
    }

    int later(int stain, int n) {
        return isStain(stain) && canPass(n, 0) ? ahead(n).deep[stain] : NONE;
    }

    int worn(int board, int n) {
        return isBoard(board) && canPass(n, 0) ? ahead(n).zinc[board] : NONE;
    }

    int saved(int n) {
        return canPass(n, 0) ? bits(ahead(n)) : NONE;
    }

    int clean() {
        for (int n = 0; canPass(n, 0); n++) {
            if (Arrays.stream(ahead(n).deep).sum() == 0) {
                return n;
            }
        }
        return NONE;
    }

    // ---- which it was

    int see() {
        int[] bytes = takeTape();
        List<int[]> rows = new ArrayList<>();
        boolean good = bytes.length % 3 == 0 && in(bytes.length / 3, 1, 16);
        for (int at = 0; good && at < bytes.length; at += 3) {
            good = isBoard(bytes[at]) && in(bytes[at + 1], 1, 40) && in(bytes[at + 2], 0, 99);
            rows.add(Arrays.copyOfRange(bytes, at, at + 3));
        }
        if (!good) {
            return refuse(5);
        }
        seen = rows;
        return rows.size();
    }

    int which() {
        int bits = 0;
        for (int k = 0; k < now.deep.length; k++) {
            int stain = k;
            bits += seen.stream().allMatch(row -> strokes(row[0], stain, row[1]) == row[2]) ? 1 << k : 0;
        }
        return bits;
    }

    int tells(int board, int what) {
        int which = which();
        if (!isBoard(board) || !in(what, 0, 1) || which == 0) {
            return NONE;
        }
        int[] best = {NONE, 99};
        for (int n = 1; n <= 40; n++) {
            Map<Integer, Integer> groups = new HashMap<>();
            for (int stain = 0; stain < now.deep.length; stain++) {
                if ((which & 1 << stain) != 0) {
                    groups.merge(strokes(board, stain, n), 1, Integer::sum);
                }
            }
            int most = groups.values().stream().max(Integer::compare).get();
            best = most < best[1] ? new int[] {n, most} : best;
        }
        return best[what];
    }

    // ---- ACTS

    private void act() {
        acts.add(new Now(now));
        if (acts.size() > 20) {
            acts.remove(0);
        }
    }

    int weeks(int n) {
        if (!canPass(n, 1)) {
            return refuse(2);
        }
        act();
        int came = 0;
        for (int k = 0; k < n; k++) {
            came += passWeek(now, false);
        }
        return came;
    }

    int chance(int n) {
        if (!canPass(n, 1)) {
            return refuse(2);
        }
        act();
        int droughts = 0;
        for (int k = 0; k < n; k++) {
            seed = (1103515245L * seed + 12345L) % 2147483648L;
            boolean drought = seed / 64 % 100 < text.dry;
            droughts += drought ? 1 : 0;
            passWeek(now, drought);
        }
        return droughts;
    }

    int sermon(int board, int stain, int n) {
        if (!isBoard(board) || !isStain(stain) || !in(n, 1, 40) || now.deep[stain] == 0) {
            return refuse(3);
        }
        act();
        return preach(now, board, stain, n);
    }

    int soil(int stain, int much) {
        if (!isStain(stain) || !in(much, 1, 99) || now.deep[stain] == 99) {
            return refuse(3);
        }
        act();
        now.deep[stain] = Math.min(99, now.deep[stain] + much);
        return now.deep[stain];
    }

    boolean mend(int board) {
        if (!isBoard(board) || now.zinc[board] == zincTold(board)) {
            return refuse(3) != NONE;
        }
        act();
        now.zinc[board] = zincTold(board);
        return true;
    }

    boolean pour(int water) {
        if (!in(water, 0, 99) || now.water == water) {
            return refuse(3) != NONE;
        }
        act();
        now.water = water;
        return true;
    }

    boolean undo() {
        if (acts.isEmpty()) {
            return refuse(4) != NONE;
        }
        now = acts.remove(acts.size() - 1);
        return true;
    }

    boolean seed(int number) {
        if (number < 0) {
            return refuse(5) != NONE;
        }
        seed = number;
        return true;
    }

    private List<int[]> told() {
        return now.kept.subList(Math.max(0, now.kept.size() - 40), now.kept.size());
    }

    int kept(int k, int what) {
        return in(k, 0, told().size() - 1) && in(what, 0, 3) ? told().get(k)[what] : NONE;
    }

    // ---- images

    /** AN IMAGE as it would be now; the latest image() stays what it is. */
    int[] imageNow() {
        List<Integer> bytes = new ArrayList<>(List.of(now.week >> 8, now.week & 255, now.water));
        Arrays.stream(now.zinc).forEach(bytes::add);
        Arrays.stream(now.deep).forEach(bytes::add);
        for (boolean one : now.saved) {
            bytes.add(one ? 1 : 0);
        }
        return Check.sealed(bytes.stream().mapToInt(k -> k).toArray());
    }

    int image() {
        image = imageNow();
        return image.length;
    }

    int octet(int k) {
        return in(k, 0, image.length - 1) ? image[k] : NONE;
    }

    boolean on() {
        int[] bytes = takeTape();
        int boards = now.zinc.length;
        int stains = now.deep.length;
        boolean good = bytes.length == 4 + boards + stains + now.saved.length
                && Arrays.equals(bytes, Check.sealed(Arrays.copyOf(bytes, bytes.length - 1)))
                && bytes[0] * 256 + bytes[1] <= 999 && bytes[2] <= 99;
        for (int k = 0; good && k < bytes.length - 4; k++) {
            good = bytes[3 + k] <= (k < boards ? zincTold(k) : k < boards + stains ? 99 : 1);
        }
        if (!good) {
            return refuse(5) != NONE;
        }
        now = new Now(text);
        now.week = bytes[0] * 256 + bytes[1];
        now.water = bytes[2];
        now.zinc = Arrays.copyOfRange(bytes, 3, 3 + boards);
        now.deep = Arrays.copyOfRange(bytes, 3 + boards, 3 + boards + stains);
        for (int k = 0; k < now.saved.length; k++) {
            now.saved[k] = bytes[3 + boards + stains + k] == 1;
        }
        acts.clear();
        return true;
    }

    int status(int what) {
        return in(what, 0, 5) ? refused[what] : NONE;
    }
}
