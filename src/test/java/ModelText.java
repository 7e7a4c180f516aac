import java.util.ArrayList;
import java.util.Arrays;
import java.util.HashMap;
import java.util.HashSet;
import java.util.LinkedHashSet;
import java.util.List;
import java.util.Map;
import java.util.Set;

/**
 * A CHAPEL's text as the Model reads it: the document's grammar stands here as it is written, and a byte
 * is a FAULT when no row of the grammar goes on with it (Earley's way, which needs no order of calls).
 */
final class ModelText {
    private static final Set<String> OWN_WORDS = Set.of("board", "ribs", "zinc", "stain", "deep", "stuff", "hearer", "sin", "ear", "out",
            "wear", "saved", "slide", "picks", "water", "dry", "week", "rub", "bone", "came", "if", "or", "and", "not", "all", "min", "max");
    private static final String SIGNS = "()[],;+-*/%<>=";
    private static final Map<String, Integer> MOST = Map.of("board", 5, "stain", 6, "hearer", 6, "out", 1, "wear", 1, "saved", 1,
            "slide", 1, "picks", 1, "water", 80, "dry", 80);
    private static final Map<String, int[]> SPANS = Map.of("ribs", new int[] {1, 9}, "zinc", new int[] {1, 99}, "deep", new int[] {0, 99},
            "stuff", new int[] {0, 9}, "sin", new int[] {0, 9}, "ear", new int[] {0, 9}, "water", new int[] {0, 99}, "dry", new int[] {0, 100});
    private static final Map<String, List<String[]>> GRAMMAR = grammar();

    int fault = 0;
    int place = -1;
    int statements = 0;
    final Map<String, Integer> counts = new HashMap<>();
    final List<String> boards = new ArrayList<>();
    final List<String> stains = new ArrayList<>();
    final List<String> hearers = new ArrayList<>();
    /** By NAME: its two NUMBERS. */
    final Map<String, int[]> things = new HashMap<>();
    final Map<String, List<String>> rules = new HashMap<>();
    int water = 0;
    int dry = 0;

    private final String text;
    private int at = 0;
    private List<String> pieces = new ArrayList<>();
    private List<Set<Row>> chart = new ArrayList<>();
    private final List<String> open = new ArrayList<>();

    /** A row of the grammar, how much of it is read, and behind how many pieces it began. */
    private record Row(String head, List<String> body, int read, int began) {
        String due() {
            return read < body.size() ? body.get(read) : null;
        }

        Row on() {
            return new Row(head, body, read + 1, began);
        }
    }

    ModelText(String text) {
        this.text = text;
        begin();
        while (fault == 0 && !atEnd()) {
            piece();
        }
        if (fault == 0 && !pieces.isEmpty()) {
            fault(1, text.length());
        }
    }

    private static Map<String, List<String[]>> grammar() {
        Map<String, List<String[]>> all = new HashMap<>();
        all.put("STATEMENT", rows("board NAME ribs N zinc N ; | stain NAME deep N stuff N ; | hearer NAME sin N ear N ; | out SUM.o ;"
                + " | wear SUM.o ; | saved TEST.s ; | slide TEST.s ; | picks SUM.p ; | water N ; | dry N ;"));
        Map<String, String> more = Map.of(".o", " | rub | bone", ".s", " | sin | ear | came", ".p", "");
        for (String sort : more.keySet()) {
            put(all, sort, "SUM", "PRODUCT | SUM + PRODUCT | SUM - PRODUCT");
            put(all, sort, "PRODUCT", "PART | PRODUCT * PART | PRODUCT / PART | PRODUCT % PART");
            put(all, sort, "PART", "N | ribs | zinc | deep | stuff | water | week | ( SUM ) | min ( SUM , SUM ) | max ( SUM , SUM )"
                    + " | if ( TEST , SUM , SUM )" + more.get(sort));
            put(all, sort, "TEST", "BOTH | TEST or BOTH");
            put(all, sort, "BOTH", "FACT | BOTH and FACT");
            put(all, sort, "FACT", "not FACT | [ TEST ] | all | SUM < SUM | SUM > SUM | SUM = SUM");
        }
        return all;
    }

    private static void put(Map<String, List<String[]>> all, String sort, String head, String rows) {
        all.put(head + sort, rows(rows.replaceAll("(SUM|PRODUCT|PART|TEST|BOTH|FACT)", "$1" + sort)));
    }

    private static List<String[]> rows(String text) {
        List<String[]> rows = new ArrayList<>();
        for (String row : text.split(" \\| ")) {
            rows.add(row.split(" "));
        }
        return rows;
    }

    private void fault(int kind, int where) {
        if (fault == 0) {
            fault = kind;
            place = where;
        }
    }

    private static boolean isBlank(char sign) {
        return sign == 10 || sign == 32;
    }

    private static boolean isLetter(char sign) {
        return "abcdefghijklmnopqrstuvwxyz".indexOf(sign) >= 0;
    }

    private static boolean isDigit(char sign) {
        return "0123456789".indexOf(sign) >= 0;
    }

    private boolean atEnd() {
        while (at < text.length() && isBlank(text.charAt(at))) {
            at++;
        }
        return at == text.length();
    }

    /** One word, number or sign is read. */
    private void piece() {
        int start = at;
        if (pieces.isEmpty() && statements == 80) {
            fault(6, start);
            return;
        }
        char sign = text.charAt(start);
        boolean whole = isLetter(sign) || isDigit(sign);
        if (whole && start > 0 && (isLetter(text.charAt(start - 1)) || isDigit(text.charAt(start - 1)))) {
            fault(1, start);
            return;
        }
        int most = isLetter(sign) ? 6 : isDigit(sign) ? 4 : 1;
        at++;
        while (whole && at < text.length() && (isLetter(sign) ? isLetter(text.charAt(at)) : isDigit(text.charAt(at)))) {
            at++;
        }
        if (at - start > most) {
            fault(1, start + most);
            return;
        }
        String piece = text.substring(start, at);
        String kind = isDigit(sign) ? "N" : isLetter(sign) && !OWN_WORDS.contains(piece) ? "NAME" : piece;
        kind = whole || SIGNS.contains(piece) ? kind : "none such";
        if (!goOn(kind)) {
            fault(1, start);
            return;
        }
        look(piece, kind, start);
        pieces.add(piece);
        if (piece.equals(";")) {
            keep();
            begin();
        }
    }

    // ---- what the grammar lets go on

    private void begin() {
        pieces = new ArrayList<>();
        chart = new ArrayList<>();
        open.clear();
        Set<Row> first = new LinkedHashSet<>();
        for (String[] body : GRAMMAR.get("STATEMENT")) {
            first.add(new Row("STATEMENT", Arrays.asList(body), 0, 0));
        }
        chart.add(closed(first));
    }

    private boolean goOn(String kind) {
        Set<Row> next = new LinkedHashSet<>();
        for (Row row : chart.get(chart.size() - 1)) {
            if (kind.equals(row.due())) {
                next.add(row.on());
            }
        }
        if (next.isEmpty()) {
            return false;
        }
        chart.add(null);
        chart.set(chart.size() - 1, closed(next));
        return true;
    }

    /** With these rows all that they begin and all that they end. */
    private Set<Row> closed(Set<Row> rows) {
        int now = Math.max(0, chart.size() - 1);
        List<Row> todo = new ArrayList<>(rows);
        Set<Row> all = new HashSet<>(rows);
        for (int k = 0; k < todo.size(); k++) {
            Row row = todo.get(k);
            List<Row> more = new ArrayList<>();
            if (row.due() == null && !row.head().equals("STATEMENT")) {
                for (Row waiting : chart.get(row.began())) {
                    if (row.head().equals(waiting.due())) {
                        more.add(waiting.on());
                    }
                }
            } else if (row.due() != null && GRAMMAR.containsKey(row.due())) {
                for (String[] body : GRAMMAR.get(row.due())) {
                    more.add(new Row(row.due(), Arrays.asList(body), 0, now));
                }
            }
            for (Row one : more) {
                if (all.add(one)) {
                    todo.add(one);
                }
            }
        }
        return all;
    }

    // ---- what else may be wrong with a piece that may stand there

    private void look(String piece, String kind, int start) {
        if (pieces.isEmpty() && counts.getOrDefault(piece, 0) >= MOST.get(piece)) {
            fault(6, start);
        }
        if (kind.equals("NAME") && things.containsKey(piece)) {
            fault(2, start);
        }
        String ahead = pieces.isEmpty() ? "" : pieces.get(pieces.size() - 1);
        boolean rule = !pieces.isEmpty() && MOST.get(pieces.get(0)) == 1;
        if (kind.equals("N") && !rule) {
            int[] span = SPANS.get(ahead);
            int number = Integer.parseInt(piece);
            if (number < span[0] || number > span[1]) {
                fault(4, start);
            }
        }
        countOpen(piece, start);
    }

    /** What is open, as a row; a not goes with the end of its FACT. */
    private void countOpen(String piece, int start) {
        if (List.of("(", "[", "not").contains(piece)) {
            open.add(piece);
            if (open.size() == 8) {
                fault(5, start);
            }
        }
        if (List.of(")", "]", ",", "and", "or", ";").contains(piece)) {
            endNots();
        }
        if (piece.equals(")") || piece.equals("]")) {
            open.remove(open.size() - 1);
        }
        if (piece.equals("]") || piece.equals("all")) {
            endNots();
        }
    }

    private void endNots() {
        while (!open.isEmpty() && open.get(open.size() - 1).equals("not")) {
            open.remove(open.size() - 1);
        }
    }

    private void keep() {
        statements++;
        String word = pieces.get(0);
        counts.merge(word, 1, Integer::sum);
        if (Set.of("board", "stain", "hearer").contains(word)) {
            (word.equals("board") ? boards : word.equals("stain") ? stains : hearers).add(pieces.get(1));
            things.put(pieces.get(1), new int[] {Integer.parseInt(pieces.get(3)), Integer.parseInt(pieces.get(5))});
        } else if (word.equals("water")) {
            water = Integer.parseInt(pieces.get(1));
        } else if (word.equals("dry")) {
            dry = Integer.parseInt(pieces.get(1));
        } else {
            rules.put(word, List.copyOf(pieces.subList(1, pieces.size() - 1)));
        }
    }
}
