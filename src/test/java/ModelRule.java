import java.math.BigInteger;
import java.util.ArrayList;
import java.util.List;
import java.util.Map;

/** A SUM or a TEST as the Model reckons it: cut at its last sign that binds least, until nothing can be cut. */
interface ModelRule {
    BigInteger MOST = BigInteger.valueOf(1000000);

    /** A SUM's value; of a TEST 1 or 0. */
    int value(Map<String, Integer> words);

    static ModelRule sum(List<String> row) {
        String[][] binding = {{"+", "-"}, {"*", "/", "%"}};
        for (String[] signs : binding) {
            int at = last(row, signs);
            if (at >= 0) {
                ModelRule one = sum(row.subList(0, at));
                ModelRule other = sum(row.subList(at + 1, row.size()));
                String sign = row.get(at);
                return words -> reckon(sign, one.value(words), other.value(words));
            }
        }
        return part(row);
    }

    private static ModelRule part(List<String> row) {
        String first = row.get(0);
        if (row.size() == 1) {
            boolean number = Character.isDigit(first.charAt(0));
            int value = number ? Integer.parseInt(first) : 0;
            return words -> number ? value : words.get(first);
        }
        if (first.equals("(")) {
            return sum(row.subList(1, row.size() - 1));
        }
        List<List<String>> inside = inside(row.subList(2, row.size() - 1));
        if (first.equals("if")) {
            ModelRule test = test(inside.get(0));
            ModelRule one = sum(inside.get(1));
            ModelRule other = sum(inside.get(2));
            return words -> test.value(words) == 1 ? one.value(words) : other.value(words);
        }
        ModelRule one = sum(inside.get(0));
        ModelRule other = sum(inside.get(1));
        boolean lesser = first.equals("min");
        return words -> lesser == one.value(words) < other.value(words) ? one.value(words) : other.value(words);
    }

    static ModelRule test(List<String> row) {
        for (String word : List.of("or", "and")) {
            int at = last(row, word);
            if (at >= 0) {
                ModelRule one = test(row.subList(0, at));
                ModelRule other = test(row.subList(at + 1, row.size()));
                int enough = word.equals("or") ? 1 : 2;
                return words -> one.value(words) + other.value(words) >= enough ? 1 : 0;
            }
        }
        if (row.get(0).equals("not")) {
            ModelRule fact = test(row.subList(1, row.size()));
            return words -> fact.value(words) == 0 ? 1 : 0;
        }
        if (row.get(0).equals("all")) {
            return words -> 1;
        }
        int at = last(row, "<", ">", "=");
        if (at < 0) {
            return test(row.subList(1, row.size() - 1));
        }
        ModelRule one = sum(row.subList(0, at));
        ModelRule other = sum(row.subList(at + 1, row.size()));
        int due = "<=>".indexOf(row.get(at)) - 1;
        return words -> Integer.signum(Integer.compare(one.value(words), other.value(words))) == due ? 1 : 0;
    }

    private static int last(List<String> row, String... signs) {
        int inside = 0;
        for (int at = row.size() - 1; at >= 0; at--) {
            String piece = row.get(at);
            inside += piece.equals(")") || piece.equals("]") ? 1 : piece.equals("(") || piece.equals("[") ? -1 : 0;
            if (inside == 0 && List.of(signs).contains(piece)) {
                return at;
            }
        }
        return -1;
    }

    private static List<List<String>> inside(List<String> row) {
        List<List<String>> parts = new ArrayList<>();
        List<String> rest = row;
        for (int at = last(rest, ","); at >= 0; at = last(rest, ",")) {
            parts.add(0, rest.subList(at + 1, rest.size()));
            rest = rest.subList(0, at);
        }
        parts.add(0, rest);
        return parts;
    }

    private static int reckon(String sign, int a, int b) {
        BigInteger one = BigInteger.valueOf(a);
        BigInteger other = BigInteger.valueOf(b);
        BigInteger result;
        switch (sign) {
            case "+":
                result = one.add(other);
                break;
            case "-":
                result = one.subtract(other);
                break;
            case "*":
                result = one.multiply(other);
                break;
            default:
                BigInteger whole = b == 0 ? BigInteger.ZERO : notAbove(one, other);
                result = b == 0 || sign.equals("/") ? whole : one.subtract(other.multiply(whole));
        }
        return result.min(MOST).max(MOST.negate()).intValue();
    }

    /** The greatest whole number not above a / b. */
    private static BigInteger notAbove(BigInteger a, BigInteger b) {
        BigInteger whole = a.divide(b);
        boolean above = whole.multiply(b).compareTo(a) * b.signum() > 0;
        return above ? whole.subtract(BigInteger.ONE) : whole;
    }
}
