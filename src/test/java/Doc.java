import java.io.IOException;
import java.nio.file.Files;
import java.nio.file.Path;
import java.util.ArrayList;
import java.util.LinkedHashMap;
import java.util.List;
import java.util.Map;

/** The document's parts, and which of their words some test has named. */
final class Doc {
    private static final Path PLACE = Path.of("..", "shared", "DOC.md");
    private static final Map<String, String> PARTS = read();
    private static final Map<String, boolean[]> NAMED = new LinkedHashMap<>();

    private Doc() {
    }

    /** "Terms", "Promise 1" and so on: each part's words in one line, without its heading and the call it is of. */
    private static Map<String, String> read() {
        Map<String, String> parts = new LinkedHashMap<>();
        String whole;
        try {
            whole = Files.readString(PLACE);
        } catch (IOException e) {
            throw new IllegalStateException("no document at " + PLACE.toAbsolutePath(), e);
        }
        for (String part : whole.split("(?m)^## ")) {
            int end = part.indexOf('\n');
            if (end > 0) {
                String name = part.substring(0, end).split(":")[0];
                parts.put(name, line(part.substring(end)));
            }
        }
        return parts;
    }

    private static String line(String text) {
        return text.replaceAll("```[a-z]*", " ").replaceAll("\\s+", " ").trim().replaceFirst("^`[^`]*`: ", "");
    }

    /** Whether a part has these words; where it does, they are named from now on. */
    static boolean name(String part, String words) {
        String text = PARTS.getOrDefault(part, "");
        boolean[] named = NAMED.computeIfAbsent(part, p -> new boolean[text.length()]);
        int at = text.indexOf(words);
        if (at < 0 || words.isEmpty()) {
            return false;
        }
        for (; at >= 0; at = text.indexOf(words, at + 1)) {
            java.util.Arrays.fill(named, at, at + words.length(), true);
        }
        return true;
    }

    /** The words of a part that nothing has named yet. */
    static List<String> unnamed(String part) {
        List<String> all = new ArrayList<>();
        String text = PARTS.getOrDefault(part, "");
        boolean[] named = NAMED.getOrDefault(part, new boolean[text.length()]);
        StringBuilder run = new StringBuilder();
        for (int at = 0; at <= text.length(); at++) {
            if (at < text.length() && !named[at]) {
                run.append(text.charAt(at));
            } else {
                if (run.toString().matches(".*[A-Za-z0-9].*")) {
                    all.add(run.toString().trim());
                }
                run.setLength(0);
            }
        }
        return all;
    }

    static boolean has(String part) {
        return PARTS.containsKey(part);
    }
}
