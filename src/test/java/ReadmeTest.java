import java.io.ByteArrayOutputStream;
import java.io.File;
import java.io.IOException;
import java.io.PrintStream;
import java.net.URL;
import java.net.URLClassLoader;
import java.nio.charset.StandardCharsets;
import java.nio.file.Files;
import java.nio.file.Path;
import javax.tools.ToolProvider;

/** The program in README.md compiles, and prints what stands there. */
public final class ReadmeTest {
    public static void main(String[] args) throws Exception {
        String page = Files.readString(Path.of("README.md"));
        String want = block(page, "text");
        String got = printed(block(page, "java"));
        if (!got.equals(want)) {
            System.out.println(got);
        }
        Check.due("the program of README.md prints what README.md says", got.equals(want), true);
        Check.end();
    }

    /** What stands between the first such fence and its end. */
    private static String block(String page, String kind) {
        String fence = "\n```" + kind + "\n";
        int from = page.indexOf(fence);
        int upTo = page.indexOf("\n```\n", from + fence.length() - 1);
        Check.due("README.md has a block of " + kind, from >= 0 && upTo >= from, true);
        return from >= 0 && upTo >= from ? page.substring(from + fence.length(), upTo + 1) : "";
    }

    private static String printed(String program) throws Exception {
        Path place = Files.createTempDirectory("readme");
        PrintStream usual = System.out;
        ByteArrayOutputStream kept = new ByteArrayOutputStream();
        try {
            File source = Files.writeString(place.resolve("Washday.java"), program).toFile();
            String classes = System.getProperty("java.class.path");
            int wrong = ToolProvider.getSystemJavaCompiler().run(null, null, null, "-cp", classes, "-d", place.toString(), source.toString());
            Check.due("the program of README.md compiles", wrong, 0);
            System.setOut(new PrintStream(kept, true, StandardCharsets.UTF_8));
            try (URLClassLoader loader = new URLClassLoader(new URL[] {place.toUri().toURL()})) {
                loader.loadClass("Washday").getMethod("main", String[].class).invoke(null, (Object) new String[0]);
            }
        } finally {
            System.setOut(usual);
            remove(place);
        }
        return kept.toString(StandardCharsets.UTF_8).replace("\r\n", "\n");
    }

    private static void remove(Path place) throws IOException {
        for (File file : place.toFile().listFiles()) {
            Files.delete(file.toPath());
        }
        Files.delete(place);
    }
}
