import java.util.Random;

/** Texts for the ModelTest by a row of draws: CHAPELS by the document's grammar, and such as are spoilt. */
final class ModelDraws {
    private static final String[] SUM_WORDS = {"ribs", "zinc", "deep", "stuff", "water", "week"};
    private static final String[] STROKE_WORDS = {"rub", "bone"};
    private static final String[] HEARER_WORDS = {"sin", "ear", "came"};
    /** What can be opened where a PART may stand, and what ends it. */
    private static final String[] SUM_OPENED = {"(", "min(", "max(2,", "if(", "if(all,", "if(all,1,"};
    private static final String[] SUM_ENDED = {")", ",1)", ")", ",1,2)", ",1)", ")"};
    private static final String[] ODD = {"(", ")", "[", "]", "not ", "not not not ", ",", ";", "+", "-", "*", "/", "%", "<", ">", "=", " all ", " or ",
        " and ", "((((", "if(", "min(", "max(", " 0 ", " 10 ", " 100 ", "9999", "12345", "abcdefg", "abcdef", " a ", " sa ", " ha ", "board ", "stain ",
        "out ", "dry 1;", "picks 1;", "saved all;", "rub", "sin", " \n", "\t", "A", "\u00e9", "7x", "x7", "(((((((("};

    private final Random random;

    ModelDraws(long seed) {
        random = new Random(seed);
    }

    int below(int m) {
        return random.nextInt(m);
    }

    private String one(String... all) {
        return all[below(all.length)];
    }

    String text() {
        StringBuilder t = new StringBuilder();
        String[] sorts = {"board", "stain", "hearer"};
        int[] counts = {below(6), below(7), below(7)};
        for (int sort = 0; sort < 3; sort++) {
            for (int k = 0; k < counts[sort]; k++) {
                t.append(sorts[sort]).append(one(" ", "\n", "  ")).append(sorts[sort].charAt(0)).append((char) ('a' + k)).append(one("", "", "qz", "abcd"));
                t.append(numbers(sort)).append(one(";", " ;", ";\n"));
            }
        }
        rule(t, "out", one("1+ribs/3", "ribs-stuff/2", "max(1,ribs-stuff)", sum("out", 2, 0), sum("out", 4, 0)));
        rule(t, "wear", one("0", "rub%2", "bone+1", "if(deep>9,2,0)", sum("wear", 3, 0)));
        rule(t, "saved", one("came>sin", test("saved", 2, 0), test("saved", 4, 0)));
        rule(t, "slide", one("came<ear", test("slide", 3, 0)));
        rule(t, "picks", one("zinc", "ribs*week%7", sum("picks", 3, 0)));
        for (int k = below(4); k > 0; k--) {
            t.append(one("water ", "dry ")).append(below(101) % (below(3) == 0 ? 100 : 60)).append(";");
        }
        return below(3) == 0 ? t.toString().replace(" ;", ";").replace("\n", " ") : t.toString();
    }

    private String numbers(int sort) {
        if (sort == 0) {
            return " ribs " + (1 + below(9)) + " zinc " + (1 + below(below(2) == 0 ? 12 : 99));
        }
        if (sort == 1) {
            return " deep " + below(below(2) == 0 ? 15 : 100) + "\nstuff 00" + below(10);
        }
        return " sin " + below(10) + " ear " + below(10);
    }

    private void rule(StringBuilder t, String word, String rule) {
        if (below(5) != 0) {
            t.append(word).append(' ').append(rule).append(';');
        }
    }

    private String sum(String rule, int size, int open) {
        StringBuilder t = new StringBuilder(part(rule, size, open));
        for (int k = below(3); k > 0; k--) {
            t.append(one("+", "-", "*", "/", "%", " + ", " -")).append(part(rule, size - 1, open));
        }
        return t.toString();
    }

    private String part(String rule, int size, int open) {
        if (size > 0 && open < 7 && below(3) == 0) {
            String inner = sum(rule, size - 1, open + 1);
            String other = sum(rule, size - 1, open + 1);
            switch (below(4)) {
                case 0:
                    return "(" + inner + ")";
                case 1:
                    return "min (" + inner + "," + other + ")";
                case 2:
                    return "max( " + inner + " , " + other + " )";
                default:
                    return "if(" + test(rule, size - 1, open + 1) + "," + inner + "," + other + ")";
            }
        }
        boolean stroke = rule.equals("out") || rule.equals("wear");
        boolean hearer = rule.equals("saved") || rule.equals("slide");
        if (below(3) == 0) {
            return "" + below(below(4) == 0 ? 10000 : 12);
        }
        return one(stroke && below(3) == 0 ? STROKE_WORDS : hearer && below(2) == 0 ? HEARER_WORDS : SUM_WORDS);
    }

    private String test(String rule, int size, int open) {
        StringBuilder t = new StringBuilder(fact(rule, size, open));
        for (int k = below(3); k > 0; k--) {
            t.append(one(" or ", " and ")).append(fact(rule, size - 1, open));
        }
        return t.toString();
    }

    private String fact(String rule, int size, int open) {
        if (size > 0 && open < 7 && below(3) == 0) {
            return below(2) == 0 ? "not " + fact(rule, size - 1, open + 1) : "[" + test(rule, size - 1, open + 1) + "]";
        }
        return below(8) == 0 ? "all" : sum(rule, size - 1, open) + one("<", ">", "=", " < ") + sum(rule, size - 1, open);
    }

    /** One more, that may be one too many, or have a NAME that is there, or NUMBERS that can't be, or too much that is open. */
    private String statement() {
        String name = one(" ba", " sb", " hc", " x", " rub", " zinc", " bcqz", " toolong");
        switch (below(6)) {
            case 0:
                return "board" + name + " ribs " + below(11) + " zinc " + below(102) + ";";
            case 1:
                return "stain" + name + " deep " + below(102) + " stuff " + below(12) + ";";
            case 2:
                return "hearer" + name + " sin " + below(12) + " ear " + below(12) + ";";
            case 3:
                return "water " + below(110) + ";dry " + below(110) + ";";
            default:
                return deep();
        }
    }

    /** Six to nine that are open at once, and sometimes one that is ended ahead of them. */
    private String deep() {
        boolean test = below(2) == 0;
        StringBuilder t = new StringBuilder(test ? one("saved ", "slide ") : one("out ", "wear ", "picks "));
        t.append(test ? one("", "not not all and ", "not not [all] or ", "not 1<2 and ", "not not (1)=1 or ", "[not all] or ")
                : one("", "(1)+", "min(1,2)*", "if(not all,1,2)-"));
        StringBuilder behind = new StringBuilder();
        for (int k = 6 + below(4); k > 0; k--) {
            String opened = test ? one("not ", "[", "1<") : "";
            if (opened.equals("not ") || opened.equals("[")) {
                t.append(opened);
                behind.insert(0, opened.equals("[") ? "]" : "");
            } else {
                int which = below(SUM_OPENED.length);
                t.append(opened).append(SUM_OPENED[which]);
                behind.insert(0, SUM_ENDED[which]);
                test = SUM_OPENED[which].equals("if(");
            }
        }
        return t + (test ? one("all", "1<2", "1=(2)", "max(1,2)>(0)", "all and not all") : one("1", "(2)", "rub", "min(1,2)")) + behind + ";";
    }

    /** A text with some of its bytes left out, changed or put there; or with one STATEMENT too many. */
    String spoilt() {
        StringBuilder t = new StringBuilder(text());
        if (below(12) == 0) {
            for (int k = 60 + below(25); k > 0; k--) {
                t.append(one("dry 1;", "water 2;"));
            }
        }
        for (int k = below(4) - below(2); k >= 0 && t.length() > 0; k--) {
            int at = below(t.length());
            switch (below(6)) {
                case 0:
                    t.deleteCharAt(at);
                    break;
                case 1:
                    t.setCharAt(at, (char) below(256));
                    break;
                case 2:
                    t.setLength(at);
                    break;
                case 3:
                    t.insert(at, t.substring(at, Math.min(t.length(), at + below(40))));
                    break;
                case 4:
                    t.insert(t.indexOf(";", at) + 1, statement());
                    break;
                default:
                    t.insert(at, one(ODD));
            }
        }
        return t.toString();
    }
}
