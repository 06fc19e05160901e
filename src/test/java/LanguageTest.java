import com.sun.source.tree.AssertTree;
import com.sun.source.tree.BinaryTree;
import com.sun.source.tree.ClassTree;
import com.sun.source.tree.CompilationUnitTree;
import com.sun.source.tree.InstanceOfTree;
import com.sun.source.tree.LambdaExpressionTree;
import com.sun.source.tree.MemberReferenceTree;
import com.sun.source.tree.MethodInvocationTree;
import com.sun.source.tree.MethodTree;
import com.sun.source.tree.NewArrayTree;
import com.sun.source.tree.NewClassTree;
import com.sun.source.tree.ThrowTree;
import com.sun.source.tree.Tree;
import com.sun.source.tree.TryTree;
import com.sun.source.tree.TypeCastTree;
import com.sun.source.tree.VariableTree;
import com.sun.source.util.JavacTask;
import com.sun.source.util.TreePathScanner;
import com.sun.source.util.Trees;
import java.nio.file.Path;
import java.util.HashMap;
import java.util.HashSet;
import java.util.List;
import java.util.Map;
import java.util.Set;
import java.util.TreeSet;
import javax.lang.model.element.Element;
import javax.lang.model.element.ExecutableElement;
import javax.lang.model.element.Modifier;
import javax.lang.model.type.TypeKind;
import javax.tools.JavaCompiler;
import javax.tools.ToolProvider;

/** Measures the program against the rules of LANGUAGE.md that can be counted. */
public final class LanguageTest {
    private static final Set<String> THROWN = Set.of("IllegalStateException",
            "IllegalArgumentException", "IndexOutOfBoundsException", "ArithmeticException",
            "UnsupportedOperationException", "NoSuchElementException");
    private static final Set<String> LIBRARY = Set.of("java.lang.Math.max", "java.lang.Math.min",
            "java.lang.System.arraycopy", "java.lang.Object.<init>");

    private final Map<Element, Set<Element>> calls = new HashMap<>();
    private final Map<Element, String> names = new HashMap<>();
    private final Map<Element, Integer> depths = new HashMap<>();
    private final Set<String> faults = new TreeSet<>();
    private final Set<String> faceNames = new TreeSet<>();
    private final Set<String> privateNames = new TreeSet<>();
    private final Set<String> newInLoops = new TreeSet<>();
    private int classes = 0;
    private int longest = 0;
    private int mostFields = 0;

    public static void main(String[] args) throws Exception {
        LanguageTest test = new LanguageTest();
        test.scan();
        Check.due("faults", "[]", test.faults::toString);
        Check.due("names both private and of the face", "[]", () -> {
            Set<String> both = new TreeSet<>(test.privateNames);
            both.retainAll(test.faceNames);
            return both.toString();
        });
        Check.due("at most 12 classes", true, () -> test.classes <= 12);
        Check.due("methods of at most 60 lines", true, () -> test.longest <= 60);
        Check.due("at most 20 fields", true, () -> test.mostFields <= 20);
        Check.due("calls at most 8 deep", true, () -> test.deepest() <= 8);
        if (test.deepest() > 8) {
            test.printDeepest();
        }
        System.out.println(test.classes + " classes, longest method " + test.longest
                + " lines, most fields " + test.mostFields + ", calls " + test.deepest() + " deep");
        Check.end();
    }

    private void scan() throws Exception {
        JavaCompiler compiler = ToolProvider.getSystemJavaCompiler();
        var files = compiler.getStandardFileManager(null, null, null);
        var sources = files.getJavaFileObjects(Path.of("src/main/java/Stringdrawer.java"));
        JavacTask task = (JavacTask) compiler.getTask(null, files, null, List.of("-proc:none"),
                null, sources);
        Iterable<? extends CompilationUnitTree> units = task.parse();
        task.analyze();
        Trees trees = Trees.instance(task);
        for (CompilationUnitTree unit : units) {
            Check.due("imports", "[import java.util.NoSuchElementException;]", () ->
                    unit.getImports().stream().map(i -> i.toString().strip()).toList().toString());
            new Scanner(trees, unit).scan(unit, null);
        }
    }

    private int deepest() {
        int deepest = 0;
        for (Element method : names.keySet()) {
            deepest = Math.max(deepest, depth(method, new HashSet<>()));
        }
        return deepest;
    }

    /** A call of a method that is open already is a recursion, and does not count. */
    private int depth(Element method, Set<Element> open) {
        if (!names.containsKey(method) || !open.add(method)) {
            return 0;
        }
        int deepest = 0;
        if (depths.containsKey(method)) {
            open.remove(method);
            return depths.get(method);
        }
        for (Element other : calls.getOrDefault(method, Set.of())) {
            deepest = Math.max(deepest, depth(other, open));
        }
        open.remove(method);
        depths.put(method, deepest + 1);
        return deepest + 1;
    }

    /** Tells one of the longest rows of calls, so that it can be made shorter. */
    private void printDeepest() {
        Element next = null;
        for (Element method : names.keySet()) {
            next = next == null || depths.get(method) > depths.get(next) ? method : next;
        }
        while (next != null) {
            System.out.println("  " + next.getEnclosingElement().getSimpleName() + "." + next);
            Element deeper = null;
            for (Element other : calls.get(next)) {
                boolean fits = depths.getOrDefault(other, 0) == depths.get(next) - 1;
                deeper = names.containsKey(other) && fits && !other.equals(next) ? other : deeper;
            }
            next = deeper;
        }
    }

    private final class Scanner extends TreePathScanner<Void, Void> {
        private final Trees trees;
        private final CompilationUnitTree unit;
        private Element method;

        Scanner(Trees trees, CompilationUnitTree unit) {
            this.trees = trees;
            this.unit = unit;
        }

        private void fault(String what, Tree tree) {
            long start = trees.getSourcePositions().getStartPosition(unit, tree);
            faults.add(what + " in line " + unit.getLineMap().getLineNumber(start));
        }

        @Override
        public Void visitClass(ClassTree tree, Void none) {
            classes++;
            int fields = 0;
            for (Tree member : tree.getMembers()) {
                if (member instanceof VariableTree field) {
                    boolean fixed = field.getModifiers().getFlags().contains(Modifier.STATIC);
                    fields += fixed ? 0 : 1;
                    if (fixed && !field.getModifiers().getFlags().contains(Modifier.FINAL)) {
                        fault("a static field that is not final", field);
                    }
                    if (!field.getModifiers().getFlags().contains(Modifier.PRIVATE)) {
                        fault("a field that is not private", field);
                    }
                }
            }
            mostFields = Math.max(mostFields, fields);
            return super.visitClass(tree, none);
        }

        @Override
        public Void visitMethod(MethodTree tree, Void none) {
            method = trees.getElement(getCurrentPath());
            names.put(method, method.toString());
            calls.put(method, new HashSet<>());
            boolean face = method.getModifiers().contains(Modifier.PUBLIC);
            (face ? faceNames : privateNames).add(
                    method.getSimpleName().contentEquals("<init>") ? "" + face
                            : method.getSimpleName().toString());
            var positions = trees.getSourcePositions();
            long end = Math.max(0, positions.getEndPosition(unit, tree));
            long from = unit.getLineMap().getLineNumber(positions.getStartPosition(unit, tree));
            long to = unit.getLineMap().getLineNumber(end);
            longest = Math.max(longest, (int) (to - from + 1));
            if (tree.getParameters().size() > 7) {
                fault("more than seven parameters", tree);
            }
            super.visitMethod(tree, none);
            method = null;
            return none;
        }

        @Override
        public Void visitMethodInvocation(MethodInvocationTree tree, Void none) {
            called(trees.getElement(getCurrentPath()), tree);
            return super.visitMethodInvocation(tree, none);
        }

        @Override
        public Void visitNewClass(NewClassTree tree, Void none) {
            Element made = trees.getElement(getCurrentPath());
            String type = tree.getIdentifier().toString();
            if (THROWN.contains(type)) {
                if (tree.getArguments().size() > 1 || !tree.getArguments().isEmpty()
                        && tree.getArguments().get(0).getKind() != Tree.Kind.STRING_LITERAL) {
                    fault("an exception without a written text", tree);
                }
            } else {
                called(made, tree);
            }
            return super.visitNewClass(tree, none);
        }

        private void called(Element other, Tree tree) {
            if (method != null) {
                calls.get(method).add(other);
            }
            Element owner = other.getEnclosingElement();
            String name = owner + "." + other.getSimpleName();
            if (owner.toString().startsWith("java.") && !LIBRARY.contains(name)) {
                fault("the library's " + name, tree);
            }
            if (method != null && other instanceof ExecutableElement && other.equals(method)
                    && !method.getModifiers().contains(Modifier.PRIVATE)) {
                fault("a recursion that is not private", tree);
            }
        }

        @Override
        public Void visitThrow(ThrowTree tree, Void none) {
            if (!(tree.getExpression() instanceof NewClassTree made)
                    || !THROWN.contains(made.getIdentifier().toString())) {
                fault("a throw of something else", tree);
            }
            if (method == null || method.getSimpleName().contentEquals("<init>")) {
                fault("a throw in a constructor", tree);
            }
            return super.visitThrow(tree, none);
        }

        @Override
        public Void visitBinary(BinaryTree tree, Void none) {
            var type = trees.getTypeMirror(getCurrentPath());
            if (type.getKind() == TypeKind.DECLARED) {
                fault("texts joined by +", tree);
            }
            boolean divides = tree.getKind() == Tree.Kind.REMAINDER
                    || tree.getKind() == Tree.Kind.DIVIDE;
            String divisor = tree.getRightOperand().toString();
            if (divides && !divisor.equals("PRIME") && !divisor.startsWith("(float)")
                    && !divisor.startsWith("(double)")) {
                fault("a divisor that is no constant", tree);
            }
            return super.visitBinary(tree, none);
        }

        @Override
        public Void visitNewArray(NewArrayTree tree, Void none) {
            if (!tree.getDimensions().isEmpty()
                    && !tree.getDimensions().get(0).toString()
                            .matches("[A-Z_ *0-9]+|Math\\.max\\(0, .*")) {
                fault("a length that is no constant", tree);
            }
            return super.visitNewArray(tree, none);
        }

        @Override
        public Void visitTypeCast(TypeCastTree tree, Void none) {
            if (!tree.getType().toString().matches("int|float|double|char|long")) {
                fault("a cast", tree);
            }
            return super.visitTypeCast(tree, none);
        }

        @Override
        public Void visitLambdaExpression(LambdaExpressionTree tree, Void none) {
            fault("a lambda", tree);
            return super.visitLambdaExpression(tree, none);
        }

        @Override
        public Void visitMemberReference(MemberReferenceTree tree, Void none) {
            fault("a method reference", tree);
            return super.visitMemberReference(tree, none);
        }

        @Override
        public Void visitTry(TryTree tree, Void none) {
            fault("a try", tree);
            return super.visitTry(tree, none);
        }

        @Override
        public Void visitAssert(AssertTree tree, Void none) {
            fault("an assert", tree);
            return super.visitAssert(tree, none);
        }

        @Override
        public Void visitInstanceOf(InstanceOfTree tree, Void none) {
            fault("an instanceof", tree);
            return super.visitInstanceOf(tree, none);
        }
    }
}
