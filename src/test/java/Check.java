/** What all tests of the project use: tapes, texts, answers that are due. */
final class Check {
    private static int wrong = 0;
    private static int asked = 0;

    private Check() {
    }

    static void due(String call, long got, long want) {
        asked++;
        if (got != want) {
            wrong++;
            System.out.println(call + " answered " + got + ", due is " + want);
        }
    }

    static void due(String call, boolean got, boolean want) {
        due(call, got ? 1 : 0, want ? 1 : 0);
    }

    /** Puts bytes on an empty tape. */
    static void tape(ZincSermon x, int... bytes) {
        int[] fives = new int[5];
        for (int at = 0; at < bytes.length; at += 20) {
            for (int k = 0; k < 20; k++) {
                int octet = at + k < bytes.length ? bytes[at + k] & 255 : 0;
                fives[k / 4] = fives[k / 4] << 8 | octet;
            }
            x.feed(fives[0], fives[1], fives[2], fives[3], fives[4]);
        }
        x.end(bytes.length);
    }

    static void tape(ZincSermon x, String text) {
        int[] bytes = new int[text.length()];
        for (int k = 0; k < bytes.length; k++) {
            bytes[k] = text.charAt(k);
        }
        tape(x, bytes);
    }

    /** A new object with this CHAPEL, which must be without a FAULT. */
    static ZincSermon chapel(String text) {
        ZincSermon x = new ZincSermon();
        tape(x, text);
        int count = x.chapel();
        if (count < 0) {
            due("chapel() of " + text + ", fault " + x.fault(0) + " at " + x.fault(1), count, 0);
        }
        return x;
    }

    static void good(String text, int statements) {
        ZincSermon x = new ZincSermon();
        tape(x, text);
        due("chapel() of " + text, x.chapel(), statements);
        due("fault(0) of " + text, x.fault(0), 0);
        due("fault(1) of " + text, x.fault(1), ZincSermon.NONE);
    }

    static void bad(String text, int fault, int place) {
        ZincSermon x = new ZincSermon();
        tape(x, text);
        due("chapel() of " + text, x.chapel(), ZincSermon.NONE);
        due("fault(0) of " + text, x.fault(0), fault);
        due("fault(1) of " + text, x.fault(1), place);
        due("status(1) of " + text, x.status(1), 1);
    }

    /** All that can be asked of an object without changing it, in one number. */
    static long all(ZincSermon x) {
        long sum = 17;
        for (int what = 0; what < 12; what++) {
            sum = sum * 31 + x.has(what);
        }
        for (int k = 0; k < 6; k++) {
            sum = sum * 31 + x.board(k, 0) * 1000 + x.board(k, 1);
            sum = sum * 31 + x.stain(k, 0) * 1000 + x.stain(k, 1);
            sum = sum * 31 + x.hearer(k, 0) * 100 + x.hearer(k, 1) * 10 + x.hearer(k, 2);
        }
        for (int k = 0; k < 40; k++) {
            for (int what = 0; what < 4; what++) {
                sum = sum * 31 + x.kept(k, what);
            }
        }
        return sum;
    }

    static String times(String text, int n) {
        StringBuilder all = new StringBuilder();
        for (int k = 0; k < n; k++) {
            all.append(text);
        }
        return all.toString();
    }

    static void end() {
        System.out.println(asked + " asked, " + wrong + " wrong");
        if (wrong != 0) {
            System.exit(1);
        }
    }
}
