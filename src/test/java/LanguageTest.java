import com.sun.source.tree.ClassTree;
import com.sun.source.tree.CompilationUnitTree;
import com.sun.source.tree.MethodInvocationTree;
import com.sun.source.tree.MethodTree;
import com.sun.source.tree.NewArrayTree;
import com.sun.source.tree.NewClassTree;
import com.sun.source.tree.Tree;
import com.sun.source.tree.VariableTree;
import com.sun.source.util.JavacTask;
import com.sun.source.util.TreePathScanner;
import com.sun.source.util.Trees;
import java.io.IOException;
import java.nio.file.Files;
import java.nio.file.Path;
import java.util.ArrayList;
import java.util.EnumSet;
import java.util.HashMap;
import java.util.LinkedHashMap;
import java.util.LinkedHashSet;
import java.util.List;
import java.util.Map;
import java.util.Set;
import java.util.TreeSet;
import java.util.regex.Matcher;
import java.util.regex.Pattern;
import javax.lang.model.element.Element;
import javax.lang.model.element.Modifier;
import javax.tools.JavaCompiler;
import javax.tools.StandardJavaFileManager;
import javax.tools.ToolProvider;

/** The source keeps to those rules of LANGUAGE.md that its words and its tree show. */
public final class LanguageTest {
    private static final Path SOURCE = Path.of("src/main/java/SwapPress.java");
    private static final String[] BARRED_WORDS = {
        "throw", "throws", "try", "catch", "synchronized", "assert", "package", "protected", "volatile",
        "System\\.(?!arraycopy)", "Thread", "Random", "nanoTime", "->", "::", "\\w+Exact", "var",
        "hashCode", "toString", "String\\.", "getClass", "while \\(true\\)", "for \\(;",
    };
    private static final Set<Tree.Kind> BARRED_TREES = EnumSet.of(Tree.Kind.THROW, Tree.Kind.TRY, Tree.Kind.SYNCHRONIZED,
        Tree.Kind.ASSERT, Tree.Kind.LAMBDA_EXPRESSION, Tree.Kind.MEMBER_REFERENCE, Tree.Kind.ENHANCED_FOR_LOOP,
        Tree.Kind.SWITCH_EXPRESSION, Tree.Kind.INSTANCE_OF);
    private static final Set<String> LIBRARY = Set.of("java.lang.String.length", "java.lang.String.charAt",
        "java.lang.Math.min", "java.lang.Math.max", "java.lang.Integer.bitCount", "java.lang.System.arraycopy",
        "java.util.Arrays.fill", "java.lang.Object.<init>");
    private static final int DEEPEST = 8;
    private static final Checks CHECKS = new Checks("LanguageTest");

    public static void main(String[] args) throws IOException {
        checkWords();
        JavaCompiler compiler = ToolProvider.getSystemJavaCompiler();
        try (StandardJavaFileManager files = compiler.getStandardFileManager(null, null, null)) {
            JavacTask task = (JavacTask) compiler.getTask(null, files, null, List.of("-proc:none"), null,
                files.getJavaFileObjects(SOURCE));
            CompilationUnitTree unit = task.parse().iterator().next();
            task.analyze();
            Scan scan = new Scan(Trees.instance(task), unit);
            scan.scan(unit, null);
            checkSizes(scan);
            checkCalls(scan);
        }
        CHECKS.end();
    }

    private static void holds(String what, boolean holds) {
        CHECKS.due(what, holds ? 1 : 0, 1);
    }

    private static void checkWords() throws IOException {
        String whole = Files.readString(SOURCE);
        String code = whole.replaceAll("(?s)/\\*.*?\\*/", "").replaceAll("//[^\n]*", "");
        for (String word : BARRED_WORDS) {
            String bounded = Character.isLetter(word.charAt(0)) ? "\\b" + word : word;
            bounded = Character.isLetter(word.charAt(word.length() - 1)) ? bounded + "\\b" : bounded;
            CHECKS.due("uses of " + word, count(code, bounded), 0);
        }
        CHECKS.due("imports", count(code, "\\bimport\\b"), count(code, "import java\\.util\\.Arrays;"));
        CHECKS.due("signs beyond 126", count(whole, "[^\\x0a\\x20-\\x7e]"), 0);
    }

    private static int count(String text, String pattern) {
        int found = 0;
        Matcher matcher = Pattern.compile(pattern).matcher(text);
        while (matcher.find()) {
            found++;
        }
        return found;
    }

    /** Rules 1, 5, 6, 11, 12. */
    private static void checkSizes(Scan scan) {
        holds("at most 12 classes, " + scan.fields.keySet(), scan.fields.size() <= 12);
        for (Map.Entry<String, Integer> fields : scan.fields.entrySet()) {
            holds("at most 20 fields in " + fields.getKey(), fields.getValue() <= 20);
        }
        CHECKS.due("barred trees", scan.barred.toString(), "[]");
        CHECKS.due("static fields that aren't final", scan.loose.toString(), "[]");
        CHECKS.due("objects made by a call", scan.made.toString(), "[]");
        CHECKS.due("methods of more than 60 lines", scan.longOnes.toString(), "[]");
        CHECKS.due("methods of more than 7 parameters", scan.wideOnes.toString(), "[]");
        Set<String> both = new TreeSet<>(scan.publicNames);
        both.retainAll(scan.otherNames);
        CHECKS.due("private ones with a public name", both.toString(), "[]");
        CHECKS.due("public ones", scan.publicNames.size(), 37);
        holds("others are found", scan.otherNames.size() > 60);
    }

    /** Rules 4, 8, 11: the library's own calls count as a level, too. */
    private static void checkCalls(Scan scan) {
        Map<String, Integer> known = new HashMap<>();
        int deepest = 0;
        for (String method : scan.calls.keySet()) {
            int depth = depth(scan, method, known, new ArrayList<>());
            deepest = Math.max(deepest, depth);
            holds("calls below " + method + " are " + depth + " deep", depth <= DEEPEST);
        }
        holds("rows of calls are found, " + deepest, deepest > 5);
        Set<String> outside = new TreeSet<>();
        for (Set<String> called : scan.calls.values()) {
            outside.addAll(called);
        }
        outside.removeAll(scan.calls.keySet());
        outside.removeIf(name -> LIBRARY.contains(name.replaceAll("\\(.*", "")) || name.startsWith("SwapPress"));
        CHECKS.due("calls out of the library's part", outside.toString(), "[]");
    }

    private static int depth(Scan scan, String method, Map<String, Integer> known, List<String> open) {
        if (open.contains(method)) {
            CHECKS.due("calls itself", method, "no method");
            return 0;
        }
        if (!known.containsKey(method)) {
            open.add(method);
            int deepest = 0;
            for (String called : scan.calls.getOrDefault(method, Set.of())) {
                deepest = Math.max(deepest, depth(scan, called, known, open));
            }
            open.remove(method);
            known.put(method, deepest + 1);
        }
        return known.get(method);
    }

    private static final class Scan extends TreePathScanner<Void, Void> {
        final Map<String, Set<String>> calls = new LinkedHashMap<>();
        final Map<String, Integer> fields = new LinkedHashMap<>();
        final Set<String> barred = new TreeSet<>();
        final Set<String> loose = new TreeSet<>();
        final Set<String> made = new TreeSet<>();
        final Set<String> longOnes = new TreeSet<>();
        final Set<String> wideOnes = new TreeSet<>();
        final Set<String> publicNames = new TreeSet<>();
        final Set<String> otherNames = new TreeSet<>();
        private final Trees trees;
        private final CompilationUnitTree unit;
        private String inside = "";

        Scan(Trees trees, CompilationUnitTree unit) {
            this.trees = trees;
            this.unit = unit;
        }

        private long line(long at) {
            return unit.getLineMap().getLineNumber(at);
        }

        private static String name(Element element) {
            String whole = element.toString();
            return element.getEnclosingElement() + "." + element.getSimpleName() + whole.substring(whole.indexOf('('));
        }

        @Override
        public Void scan(Tree tree, Void none) {
            if (tree != null && BARRED_TREES.contains(tree.getKind())) {
                barred.add(tree.getKind() + " in line " + line(trees.getSourcePositions().getStartPosition(unit, tree)));
            }
            return super.scan(tree, none);
        }

        @Override
        public Void visitClass(ClassTree tree, Void none) {
            fields.put(tree.getSimpleName().toString(), 0);
            for (Tree member : tree.getMembers()) {
                if (member instanceof VariableTree field) {
                    Set<Modifier> flags = field.getModifiers().getFlags();
                    if (!flags.contains(Modifier.STATIC)) {
                        fields.merge(tree.getSimpleName().toString(), 1, Integer::sum);
                    } else if (!flags.contains(Modifier.FINAL)) {
                        loose.add(field.getName().toString());
                    }
                }
            }
            return super.visitClass(tree, none);
        }

        @Override
        public Void visitMethod(MethodTree tree, Void none) {
            Element element = trees.getElement(getCurrentPath());
            String before = inside;
            inside = name(element);
            calls.putIfAbsent(inside, new LinkedHashSet<>());
            String simple = tree.getName().toString();
            if (!simple.equals("<init>")) {
                (tree.getModifiers().getFlags().contains(Modifier.PUBLIC) ? publicNames : otherNames).add(simple);
            }
            long first = line(trees.getSourcePositions().getStartPosition(unit, tree));
            long last = line(trees.getSourcePositions().getEndPosition(unit, tree));
            if (last - first > 60) {
                longOnes.add(inside);
            }
            if (tree.getParameters().size() > 7) {
                wideOnes.add(inside);
            }
            super.visitMethod(tree, none);
            inside = before;
            return null;
        }

        @Override
        public Void visitMethodInvocation(MethodInvocationTree tree, Void none) {
            Element called = trees.getElement(getCurrentPath());
            calls.computeIfAbsent(inside, key -> new LinkedHashSet<>()).add(name(called));
            return super.visitMethodInvocation(tree, none);
        }

        @Override
        public Void visitNewClass(NewClassTree tree, Void none) {
            calls.computeIfAbsent(inside, key -> new LinkedHashSet<>()).add(name(trees.getElement(getCurrentPath())));
            noteMade(tree);
            return super.visitNewClass(tree, none);
        }

        @Override
        public Void visitNewArray(NewArrayTree tree, Void none) {
            noteMade(tree);
            return super.visitNewArray(tree, none);
        }

        /** All calls of a run live in one room, so nothing may be made but in fields and constructors. */
        private void noteMade(Tree tree) {
            if (!inside.isEmpty() && !inside.contains("<init>")) {
                made.add(inside + " makes " + tree);
            }
        }
    }
}
