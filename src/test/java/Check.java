import java.util.Arrays;
import java.util.function.Predicate;
import java.util.function.ToIntFunction;

/** What all tests of the project use: tapes, texts, answers that are due. */
final class Check {
    private static int wrong = 0;
    private static int asked = 0;
    /** The promise and the sentence that are tested now. */
    private static String saying = "";

    private Check() {
    }

    /** What follows is due by these words of a promise. */
    static void promise(int number, String... words) {
        says("Promise " + number, words);
    }

    /** What follows is due by these words of the section Terms. */
    static void terms(String... words) {
        says("Terms", words);
    }

    /** What follows is due by no words of the document. */
    static void itself() {
        saying = "";
    }

    /** What follows is due by these words of a part of the document. */
    static void says(String part, String... words) {
        itself();
        for (String sentence : words) {
            due(part + " says: " + sentence, Doc.name(part, sentence), true);
        }
        saying = part + ", \"" + String.join("\", \"", words) + "\": ";
    }

    static void due(String call, long got, long want) {
        asked++;
        if (got != want) {
            wrong++;
            System.out.println(saying + call + " answered " + got + ", due is " + want);
        }
    }

    static void due(String call, boolean got, boolean want) {
        due(call, got ? 1 : 0, want ? 1 : 0);
    }

    /** Puts bytes on an empty tape. */
    static void tape(ZincSermon x, int... bytes) {
        int[] fives = new int[5];
        for (int at = 0; at < bytes.length; at += 20) {
            for (int k = 0; k < 20; k++) {
                int octet = at + k < bytes.length ? bytes[at + k] & 255 : 0;
                fives[k / 4] = fives[k / 4] << 8 | octet;
            }
            x.feed(fives[0], fives[1], fives[2], fives[3], fives[4]);
        }
        x.end(bytes.length);
    }

    static void tape(ZincSermon x, String text) {
        int[] bytes = new int[text.length()];
        for (int k = 0; k < bytes.length; k++) {
            bytes[k] = text.charAt(k);
        }
        tape(x, bytes);
    }

    /** A new object with this CHAPEL, which must be without a FAULT. */
    static ZincSermon chapel(String text) {
        ZincSermon x = new ZincSermon();
        tape(x, text);
        int count = x.chapel();
        if (count < 0) {
            due("chapel() of " + text + ", fault " + x.fault(0) + " at " + x.fault(1), count, 0);
        }
        return x;
    }

    static void good(String text, int statements) {
        ZincSermon x = new ZincSermon();
        tape(x, text);
        due("chapel() of " + text, x.chapel(), statements);
        due("fault(0) of " + text, x.fault(0), 0);
        due("fault(1) of " + text, x.fault(1), ZincSermon.NONE);
    }

    static void bad(String text, int fault, int place) {
        ZincSermon x = new ZincSermon();
        tape(x, text);
        due("chapel() of " + text, x.chapel(), ZincSermon.NONE);
        due("fault(0) of " + text, x.fault(0), fault);
        due("fault(1) of " + text, x.fault(1), place);
        due("status(1) of " + text, x.status(1), 1);
    }

    /** Bytes with the last one of AN IMAGE behind them. */
    static int[] sealed(int... bytes) {
        int[] whole = Arrays.copyOf(bytes, bytes.length + 1);
        int check = 211;
        for (int octet : bytes) {
            check = (5 * check + octet) % 251;
        }
        whole[bytes.length] = check;
        return whole;
    }

    static boolean on(ZincSermon x, int... bytes) {
        tape(x, bytes);
        return x.on();
    }

    static int see(ZincSermon x, int... bytes) {
        tape(x, bytes);
        return x.see();
    }

    /** The object's IMAGE; it is its latest one then. */
    static int[] image(ZincSermon x) {
        int[] bytes = new int[x.image()];
        for (int k = 0; k < bytes.length; k++) {
            bytes[k] = x.octet(k);
        }
        return bytes;
    }

    /** A call that is refused: NONE, its count of status() alone is one more, all else stays. */
    static void none(String call, ZincSermon x, int status, ToIntFunction<ZincSermon> refused) {
        refusal(call, x, status, ZincSermon.NONE, refused);
    }

    /** As none(), of a call that answers false. */
    static void no(String call, ZincSermon x, int status, Predicate<ZincSermon> refused) {
        refusal(call, x, status, 0, y -> refused.test(y) ? 1 : 0);
    }

    private static void refusal(String call, ZincSermon x, int status, int want, ToIntFunction<ZincSermon> refused) {
        int[] counts = statuses(x);
        long before = all(x);
        due(call, refused.applyAsInt(x), want);
        due("all else behind " + call, all(x), before);
        counts[status]++;
        for (int what = 0; what < counts.length; what++) {
            due("status(" + what + ") behind " + call, x.status(what), counts[what]);
        }
    }

    private static int[] statuses(ZincSermon x) {
        int[] counts = new int[6];
        for (int what = 0; what < counts.length; what++) {
            counts[what] = x.status(what);
        }
        return counts;
    }

    /** What was asked up to now is no refusal. */
    static void unrefused(ZincSermon x) {
        due("refused in all", Arrays.stream(statuses(x)).sum(), 0);
    }

    /** All that can be asked of an object without changing it, in one number. */
    static long all(ZincSermon x) {
        long sum = 17 + x.which();
        for (int what = 0; what < 12; what++) {
            sum = sum * 31 + x.has(what);
        }
        for (int k = 0; k < 6; k++) {
            sum = sum * 31 + x.board(k, 0) * 1000 + x.board(k, 1);
            sum = sum * 31 + x.stain(k, 0) * 1000 + x.stain(k, 1);
            sum = sum * 31 + x.hearer(k, 0) * 100 + x.hearer(k, 1) * 10 + x.hearer(k, 2);
        }
        int told = x.has(8);
        for (int k = 0; k < told; k++) {
            for (int what = 0; what < 4; what++) {
                sum = sum * 31 + x.kept(k, what);
            }
        }
        return sum;
    }

    static String times(String text, int n) {
        StringBuilder all = new StringBuilder();
        for (int k = 0; k < n; k++) {
            all.append(text);
        }
        return all.toString();
    }

    static void end() {
        System.out.println(asked + " asked, " + wrong + " wrong");
        if (wrong != 0) {
            System.exit(1);
        }
    }
}
