import com.sun.source.tree.ClassTree;
import com.sun.source.tree.CompilationUnitTree;
import com.sun.source.tree.DoWhileLoopTree;
import com.sun.source.tree.ForLoopTree;
import com.sun.source.tree.LambdaExpressionTree;
import com.sun.source.tree.MemberReferenceTree;
import com.sun.source.tree.MethodInvocationTree;
import com.sun.source.tree.MethodTree;
import com.sun.source.tree.NewArrayTree;
import com.sun.source.tree.NewClassTree;
import com.sun.source.tree.Tree;
import com.sun.source.tree.VariableTree;
import com.sun.source.tree.WhileLoopTree;
import com.sun.source.util.JavacTask;
import com.sun.source.util.TreePathScanner;
import com.sun.source.util.Trees;
import java.io.IOException;
import java.nio.file.Path;
import java.util.ArrayList;
import java.util.List;
import java.util.Map;
import java.util.Set;
import java.util.TreeMap;
import java.util.TreeSet;
import java.util.regex.Pattern;
import javax.lang.model.element.Element;
import javax.lang.model.element.Modifier;
import javax.tools.JavaCompiler;
import javax.tools.StandardJavaFileManager;
import javax.tools.ToolProvider;

/** Those rules of LANGUAGE.md that are seen by the file's tree: who calls whom, what is made where. */
public final class ShapeTest {
    private static final Path SOURCE = Path.of("src/main/java/CoconutShies.java");
    private static final String OUTER = "CoconutShies";
    private static final int DEEPEST = 8, LONGEST = 60, MOST_PARAMETERS = 7;
    private static final Set<String> LIBRARY = Set.of("java.lang.Math.max", "java.lang.Math.min",
            "java.lang.Integer.bitCount", "java.lang.System.arraycopy");
    private static final Set<String> TYPES = Set.of("int", "long", "boolean", "int[]", "boolean[]");
    /** A loop's condition begins by its counter against a bound. */
    private static final Pattern COUNTED = Pattern.compile("\\w+ <=? .+");
    private static final Pattern STEP = Pattern.compile("\\w+(\\+\\+| \\+= [1-9][0-9]*);");
    /** In the document's order; the first is promised second, behind the constructor. */
    private static final String[] PROMISED = {"write", "wipe", "fault", "fair", "about", "husk", "thrower",
        "lands", "toss", "set", "nail", "pay", "blow", "undo", "felled", "fewest", "winds", "match",
        "nails", "judge", "share", "see", "unsee", "holds", "rests", "odds", "seed", "fairs", "keep",
        "again"};
    private static final Checks CHECKS = new Checks();

    public static void main(String[] args) throws IOException {
        JavaCompiler compiler = ToolProvider.getSystemJavaCompiler();
        try (StandardJavaFileManager files = compiler.getStandardFileManager(null, null, null)) {
            JavacTask task = (JavacTask) compiler.getTask(null, files, null, List.of("-proc:none"), null,
                    files.getJavaFileObjects(SOURCE));
            CompilationUnitTree unit = task.parse().iterator().next();
            task.analyze();
            Reader reader = new Reader(Trees.instance(task), unit);
            reader.scan(unit, null);
            callsGoAtMostEightDeep(reader.calls);
            onlyStaticMethodsCallThemselves(reader);
            objectsAreMadeByConstructors(reader);
        }
        CHECKS.end("ShapeTest");
    }

    private static void holds(String what, boolean so) {
        CHECKS.due(what + " (1: so it is)", so ? 1 : 0, 1);
    }

    private static void callsGoAtMostEightDeep(Map<String, Set<String>> calls) {
        for (int i = 0; i < PROMISED.length; i++) {
            String promised = OUTER + "." + PROMISED[i];
            holds("rule 1: promise " + (i + 2) + ": there is " + promised, calls.containsKey(promised));
            List<String> chain = longestFrom(calls, promised, new ArrayList<>());
            holds("rule 11: promise " + (i + 2) + ": at most eight deep " + chain, chain.size() <= DEEPEST);
        }
    }

    /** The longest chain of calls from there, none twice. */
    private static List<String> longestFrom(Map<String, Set<String>> calls, String from, List<String> open) {
        List<String> longest = new ArrayList<>();
        open.add(from);
        for (String next : calls.getOrDefault(from, Set.of())) {
            if (!open.contains(next)) {
                List<String> chain = longestFrom(calls, next, open);
                longest = chain.size() > longest.size() ? chain : longest;
            }
        }
        open.remove(open.size() - 1);
        longest.add(0, from);
        return longest;
    }

    private static void onlyStaticMethodsCallThemselves(Reader reader) {
        reader.calls.forEach((caller, called) -> {
            for (String next : called) {
                boolean back = leadsTo(reader.calls, next, caller);
                holds("rule 8: " + caller + " by way of " + next + " calls itself",
                        !back || caller.equals(next) && reader.privateStatic.contains(caller));
            }
        });
    }

    /** Whether calls lead from the one to the other. */
    private static boolean leadsTo(Map<String, Set<String>> calls, String from, String to) {
        Set<String> reached = new TreeSet<>();
        List<String> open = new ArrayList<>(List.of(from));
        while (!open.isEmpty()) {
            String next = open.remove(open.size() - 1);
            if (reached.add(next)) {
                open.addAll(calls.getOrDefault(next, Set.of()));
            }
        }
        return reached.contains(to);
    }

    /** So no call makes an object, and a run needs no more room than its objects do. */
    private static void objectsAreMadeByConstructors(Reader reader) {
        holds("rule 12: only newStands makes objects: " + reader.makers,
                reader.makers.equals(Set.of(OUTER + ".newStands")));
        reader.calls.forEach((caller, called) ->
                holds("rule 12: newStands is called by fields alone, not by " + caller,
                        !called.contains(OUTER + ".newStands")));
    }

    /** Goes through the tree: judges each part by itself, and notes who calls whom. */
    private static final class Reader extends TreePathScanner<Void, Void> {
        final Map<String, Set<String>> calls = new TreeMap<>();
        final Set<String> privateStatic = new TreeSet<>();
        final Set<String> makers = new TreeSet<>();
        private final Trees trees;
        private final CompilationUnitTree unit;
        private String method = "";

        Reader(Trees trees, CompilationUnitTree unit) {
            this.trees = trees;
            this.unit = unit;
        }

        private static String nameOf(Element element) {
            return element.getEnclosingElement() + "." + element.getSimpleName();
        }

        private long lineOf(long position) {
            return unit.getLineMap().getLineNumber(position);
        }

        @Override
        public Void visitClass(ClassTree tree, Void none) {
            holds("rule 2: no class without a name, or in a method: " + tree.getSimpleName(),
                    method.isEmpty() && tree.getSimpleName().length() > 0);
            return super.visitClass(tree, none);
        }

        @Override
        public Void visitMethod(MethodTree tree, Void none) {
            Element element = trees.getElement(getCurrentPath());
            method = nameOf(element);
            Set<Modifier> is = element.getModifiers();
            if (is.contains(Modifier.PRIVATE) && is.contains(Modifier.STATIC)) {
                privateStatic.add(method);
            }
            long lines = lineOf(trees.getSourcePositions().getEndPosition(unit, tree))
                    - lineOf(trees.getSourcePositions().getStartPosition(unit, tree)) + 1;
            holds("rule 11: at most sixty lines in " + method, lines <= LONGEST);
            holds("rule 11: at most seven parameters of " + method,
                    tree.getParameters().size() <= MOST_PARAMETERS);
            // A constructor that is not written calls only that of Object.
            if (tree.getReturnType() != null) {
                holds("rule 11: one method of that name: " + method, calls.put(method, new TreeSet<>()) == null);
                super.visitMethod(tree, none);
            }
            method = "";
            return null;
        }

        @Override
        public Void visitMethodInvocation(MethodInvocationTree tree, Void none) {
            String called = nameOf(trees.getElement(getCurrentPath()));
            if (!called.startsWith(OUTER)) {
                holds("rule 4: of the library only what is listed, not " + called, LIBRARY.contains(called));
            }
            if (!method.isEmpty()) {
                calls.get(method).add(called);
            }
            return super.visitMethodInvocation(tree, none);
        }

        @Override
        public Void visitVariable(VariableTree tree, Void none) {
            String type = trees.getTypeMirror(getCurrentPath()).toString();
            holds("rule 3: the type of " + tree, TYPES.contains(type)
                    || type.matches(OUTER + "\\.\\w+(\\[\\])?"));
            return super.visitVariable(tree, none);
        }

        @Override
        public Void visitNewClass(NewClassTree tree, Void none) {
            noteMaker();
            return super.visitNewClass(tree, none);
        }

        @Override
        public Void visitNewArray(NewArrayTree tree, Void none) {
            noteMaker();
            return super.visitNewArray(tree, none);
        }

        private void noteMaker() {
            if (!method.isEmpty()) {
                makers.add(method);
            }
        }

        @Override
        public Void visitForLoop(ForLoopTree tree, Void none) {
            String counter = tree.getUpdate().toString();
            String bound = String.valueOf(tree.getCondition());
            holds("rule 9: a counter against a bound, in " + method + ": " + bound + ", " + counter,
                    COUNTED.matcher(bound).matches() && STEP.matcher(counter).matches()
                            && bound.startsWith(counter.replaceAll("\\W.*", "")));
            return super.visitForLoop(tree, none);
        }

        @Override
        public Void visitWhileLoop(WhileLoopTree tree, Void none) {
            return refuse("rule 9: a while, whose end is not seen from its lines", tree);
        }

        @Override
        public Void visitDoWhileLoop(DoWhileLoopTree tree, Void none) {
            return refuse("rule 9: a do, whose end is not seen from its lines", tree);
        }

        @Override
        public Void visitLambdaExpression(LambdaExpressionTree tree, Void none) {
            return refuse("rule 2: a lambda", tree);
        }

        @Override
        public Void visitMemberReference(MemberReferenceTree tree, Void none) {
            return refuse("rule 2: a method reference", tree);
        }

        private Void refuse(String rule, Tree tree) {
            holds(rule + ": " + tree, false);
            return null;
        }
    }
}
