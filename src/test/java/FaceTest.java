import java.lang.reflect.Constructor;
import java.lang.reflect.Field;
import java.lang.reflect.Method;
import java.lang.reflect.Modifier;
import java.util.Set;
import java.util.TreeSet;

/** The face is the document's, and nothing else is open. */
public final class FaceTest {
    private static final String[] FACE = {
        "int feed 5", "boolean end 1", "int chapel 0", "int fault 1", "int has 1", "int letter 3",
        "int board 2", "int stain 2", "int hearer 2", "int strokes 3", "int needed 3", "int best 1",
        "int match 1", "int heads 2", "int later 2", "int worn 2", "int saved 1", "int clean 0",
        "int see 0", "int which 0", "int tells 2", "int weeks 1", "int chance 1", "int sermon 3",
        "int soil 2", "boolean mend 1", "boolean pour 1", "boolean undo 0", "boolean seed 1",
        "int kept 2", "int image 0", "int octet 1", "boolean on 0", "int status 1"};

    public static void main(String[] args) {
        Set<String> open = new TreeSet<>();
        Set<String> names = new TreeSet<>();
        for (String line : FACE) {
            names.add(line.split(" ")[1]);
        }
        for (Method m : ZincSermon.class.getDeclaredMethods()) {
            if (!Modifier.isPrivate(m.getModifiers())) {
                open.add(m.getReturnType() + " " + m.getName() + " " + m.getParameterCount());
            } else {
                Check.due("a private method bears a public name: " + m.getName(), names.contains(m.getName()), false);
            }
        }
        Check.due("the open methods " + open, open.equals(new TreeSet<>(Set.of(FACE))), true);
        int fields = 0;
        for (Field f : ZincSermon.class.getDeclaredFields()) {
            fields += Modifier.isPrivate(f.getModifiers()) ? 0 : 1;
        }
        Check.due("open fields", fields, 1);
        Check.due("NONE", ZincSermon.NONE, -1);
        Constructor<?>[] all = ZincSermon.class.getDeclaredConstructors();
        Check.due("constructors", all.length, 1);
        Check.due("a public constructor", Modifier.isPublic(all[0].getModifiers()), true);
        Check.due("a final class", Modifier.isFinal(ZincSermon.class.getModifiers()), true);
        Check.end();
    }
}
