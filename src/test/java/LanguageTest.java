import com.sun.source.tree.AssertTree;
import com.sun.source.tree.ClassTree;
import com.sun.source.tree.CompilationUnitTree;
import com.sun.source.tree.LambdaExpressionTree;
import com.sun.source.tree.MemberReferenceTree;
import com.sun.source.tree.MethodInvocationTree;
import com.sun.source.tree.MethodTree;
import com.sun.source.tree.NewClassTree;
import com.sun.source.tree.SynchronizedTree;
import com.sun.source.tree.ThrowTree;
import com.sun.source.tree.Tree;
import com.sun.source.tree.TryTree;
import com.sun.source.tree.VariableTree;
import com.sun.source.util.JavacTask;
import com.sun.source.util.TreePathScanner;
import com.sun.source.util.Trees;
import java.io.File;
import java.io.IOException;
import java.util.List;
import java.util.Map;
import java.util.Set;
import java.util.TreeMap;
import java.util.TreeSet;
import javax.lang.model.element.Element;
import javax.lang.model.element.ElementKind;
import javax.lang.model.element.Modifier;
import javax.tools.JavaCompiler;
import javax.tools.StandardJavaFileManager;
import javax.tools.ToolProvider;

/** Those rules of ../shared/LANGUAGE.md that can be seen by going through the class's own tree. */
public final class LanguageTest extends TreePathScanner<Void, Void> {
    private static final File PLACE = new File("src/main/java/ZincSermon.java");
    private static final int DEEP_MOST = 8;
    private static final int LINES_MOST = 60;
    private static final int PARAMETERS_MOST = 7;
    private static final int CLASSES_MOST = 12;
    private static final int FIELDS_MOST = 20;
    /** Rule 4; of Integer, Long and Math all but those whose name ends in Exact. */
    private static final Map<String, Set<String>> LIBRARY = Map.of(
            "java.lang.String", Set.of("length", "charAt", "isEmpty", "equals", "indexOf", "substring", "toCharArray", "<init>"),
            "java.lang.StringBuilder", Set.of("<init>", "append", "charAt", "setCharAt", "setLength", "deleteCharAt", "reverse", "length", "toString"),
            "java.lang.System", Set.of("arraycopy"),
            "java.util.Arrays", Set.of("copyOf", "copyOfRange", "fill"),
            "java.lang.Object", Set.of("<init>"));
    private static final Set<String> NUMBERS = Set.of("java.lang.Integer", "java.lang.Long", "java.lang.Math");

    private final Trees trees;
    private final CompilationUnitTree unit;
    private final Map<String, Set<String>> calls = new TreeMap<>();
    private final Set<String> publicNames = new TreeSet<>();
    private final Set<String> otherNames = new TreeSet<>();
    private String method = "a field";
    private int classes = 0;

    private LanguageTest(Trees trees, CompilationUnitTree unit) {
        this.trees = trees;
        this.unit = unit;
    }

    public static void main(String[] args) throws IOException {
        JavaCompiler compiler = ToolProvider.getSystemJavaCompiler();
        StandardJavaFileManager files = compiler.getStandardFileManager(null, null, null);
        JavacTask task = (JavacTask) compiler.getTask(null, files, null, List.of("-proc:none"), null, files.getJavaFileObjects(PLACE));
        List<CompilationUnitTree> units = new java.util.ArrayList<>();
        task.parse().forEach(units::add);
        task.analyze();
        Check.due("one file", units.size(), 1);
        LanguageTest test = new LanguageTest(Trees.instance(task), units.get(0));
        test.scan(units.get(0), null);
        test.wholeFile();
        Check.end();
    }

    private void wholeFile() {
        Check.due("rule 1: a package line", unit.getPackageName() != null, false);
        Check.due("rule 1: one class outside", unit.getTypeDecls().size(), 1);
        Check.due("rule 4: imports", unit.getImports().size(), 0);
        Check.due("rule 11: " + classes + " classes", classes <= CLASSES_MOST, true);
        otherNames.retainAll(publicNames);
        Check.due("rule 1: public names that others bear: " + otherNames, otherNames.size(), 0);
        for (String from : calls.keySet()) {
            int deep = deep(from, new TreeMap<>());
            Check.due("rule 11: calls " + deep + " deep from " + from, deep <= DEEP_MOST, true);
        }
    }

    /** How many calls are open at the most, those that call one another counted as one. */
    private int deep(String from, Map<String, Integer> known) {
        Integer told = known.get(from);
        if (told != null) {
            return told;
        }
        Set<String> together = new TreeSet<>(Set.of(from));
        for (String other : reached(from)) {
            if (reached(other).contains(from)) {
                together.add(other);
            }
        }
        int most = 0;
        for (String one : together) {
            for (String other : calls.getOrDefault(one, Set.of())) {
                most = together.contains(other) ? most : Math.max(most, deep(other, known));
            }
        }
        known.put(from, most + 1);
        return most + 1;
    }

    private Set<String> reached(String from) {
        Set<String> all = new TreeSet<>();
        java.util.ArrayDeque<String> todo = new java.util.ArrayDeque<>(calls.getOrDefault(from, Set.of()));
        while (!todo.isEmpty()) {
            String one = todo.pop();
            if (all.add(one)) {
                todo.addAll(calls.getOrDefault(one, Set.of()));
            }
        }
        return all;
    }

    private void never(String what, Tree tree) {
        Check.due(what + " in line " + line(trees.getSourcePositions().getStartPosition(unit, tree)), true, false);
    }

    private long line(long position) {
        return unit.getLineMap().getLineNumber(position);
    }

    @Override
    public Void visitClass(ClassTree tree, Void none) {
        classes++;
        Element element = trees.getElement(getCurrentPath());
        Set<Modifier> modifiers = element.getModifiers();
        boolean inside = element.getEnclosingElement().getKind().isClass();
        boolean open = modifiers.contains(Modifier.PUBLIC) || modifiers.contains(Modifier.PROTECTED);
        if (inside) {
            Check.due("rule 1: " + tree.getSimpleName() + " is static and not open", modifiers.contains(Modifier.STATIC) && !open, true);
        } else {
            Check.due("rule 1: " + tree.getSimpleName() + " is public and final", open && modifiers.contains(Modifier.FINAL), true);
        }
        long fields = tree.getMembers().stream().filter(one -> one instanceof VariableTree v
                && !v.getModifiers().getFlags().contains(Modifier.STATIC)).count();
        Check.due("rule 11: " + fields + " fields of " + tree.getSimpleName(), fields <= FIELDS_MOST, true);
        return super.visitClass(tree, none);
    }

    @Override
    public Void visitVariable(VariableTree tree, Void none) {
        Element element = trees.getElement(getCurrentPath());
        if (element.getKind() == ElementKind.FIELD && element.getModifiers().contains(Modifier.STATIC)) {
            boolean constant = element.getModifiers().contains(Modifier.FINAL)
                    && Set.of("int", "long", "boolean", "char", "String").contains(tree.getType().toString());
            Check.due("rule 5: " + tree.getName() + " is a constant", constant, true);
        }
        return super.visitVariable(tree, none);
    }

    @Override
    public Void visitMethod(MethodTree tree, Void none) {
        Element element = trees.getElement(getCurrentPath());
        String outer = method;
        method = name(element);
        calls.putIfAbsent(method, new TreeSet<>());
        boolean open = element.getModifiers().contains(Modifier.PUBLIC);
        if (element.getKind() == ElementKind.METHOD) {
            (open ? publicNames : otherNames).add(tree.getName().toString());
        }
        long lines = line(trees.getSourcePositions().getEndPosition(unit, tree)) - line(trees.getSourcePositions().getStartPosition(unit, tree)) + 1;
        Check.due("rule 11: " + method + " has " + lines + " lines", lines <= LINES_MOST, true);
        Check.due("rule 11: parameters of " + method, tree.getParameters().size() <= PARAMETERS_MOST, true);
        super.visitMethod(tree, none);
        method = outer;
        return null;
    }

    private static String name(Element element) {
        return element.getEnclosingElement() + "." + element.getSimpleName();
    }

    private void call(Element element) {
        String owner = element.getEnclosingElement().toString();
        String name = element.getSimpleName().toString();
        boolean own = owner.startsWith("ZincSermon");
        boolean listed = NUMBERS.contains(owner) && !name.endsWith("Exact") || LIBRARY.getOrDefault(owner, Set.of()).contains(name);
        Check.due("rule 4: " + name(element) + " in " + method, own || listed, true);
        calls.computeIfAbsent(method, m -> new TreeSet<>()).add(name(element));
    }

    @Override
    public Void visitMethodInvocation(MethodInvocationTree tree, Void none) {
        call(trees.getElement(getCurrentPath()));
        return super.visitMethodInvocation(tree, none);
    }

    @Override
    public Void visitNewClass(NewClassTree tree, Void none) {
        if (tree.getClassBody() != null) {
            never("rule 2: an anonymous class", tree);
        }
        call(trees.getElement(getCurrentPath()));
        return super.visitNewClass(tree, none);
    }

    @Override
    public Void visitLambdaExpression(LambdaExpressionTree tree, Void none) {
        never("rule 2: a lambda", tree);
        return super.visitLambdaExpression(tree, none);
    }

    @Override
    public Void visitMemberReference(MemberReferenceTree tree, Void none) {
        never("rule 2: a method reference", tree);
        return super.visitMemberReference(tree, none);
    }

    @Override
    public Void visitThrow(ThrowTree tree, Void none) {
        never("rule 6: throw", tree);
        return super.visitThrow(tree, none);
    }

    @Override
    public Void visitTry(TryTree tree, Void none) {
        never("rule 6: try", tree);
        return super.visitTry(tree, none);
    }

    @Override
    public Void visitSynchronized(SynchronizedTree tree, Void none) {
        never("rule 6: synchronized", tree);
        return super.visitSynchronized(tree, none);
    }

    @Override
    public Void visitAssert(AssertTree tree, Void none) {
        never("rule 6: assert", tree);
        return super.visitAssert(tree, none);
    }
}
