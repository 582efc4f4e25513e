import com.sun.source.tree.ArrayAccessTree;
import com.sun.source.tree.AssertTree;
import com.sun.source.tree.BinaryTree;
import com.sun.source.tree.BlockTree;
import com.sun.source.tree.ClassTree;
import com.sun.source.tree.CompilationUnitTree;
import com.sun.source.tree.DoWhileLoopTree;
import com.sun.source.tree.ExpressionTree;
import com.sun.source.tree.ForLoopTree;
import com.sun.source.tree.ImportTree;
import com.sun.source.tree.InstanceOfTree;
import com.sun.source.tree.LambdaExpressionTree;
import com.sun.source.tree.LiteralTree;
import com.sun.source.tree.MemberReferenceTree;
import com.sun.source.tree.MethodInvocationTree;
import com.sun.source.tree.MethodTree;
import com.sun.source.tree.NewArrayTree;
import com.sun.source.tree.NewClassTree;
import com.sun.source.tree.SynchronizedTree;
import com.sun.source.tree.ThrowTree;
import com.sun.source.tree.Tree;
import com.sun.source.tree.TryTree;
import com.sun.source.tree.VariableTree;
import com.sun.source.tree.WhileLoopTree;
import com.sun.source.util.JavacTask;
import com.sun.source.util.SourcePositions;
import com.sun.source.util.TreePath;
import com.sun.source.util.TreePathScanner;
import com.sun.source.util.Trees;
import java.io.IOException;
import java.nio.file.Path;
import java.util.HashMap;
import java.util.List;
import java.util.Map;
import java.util.Set;
import java.util.TreeMap;
import java.util.TreeSet;
import javax.lang.model.element.Element;
import javax.lang.model.element.ElementKind;
import javax.lang.model.element.ExecutableElement;
import javax.lang.model.element.Modifier;
import javax.lang.model.type.TypeKind;
import javax.lang.model.type.TypeMirror;
import javax.tools.JavaCompiler;
import javax.tools.StandardJavaFileManager;
import javax.tools.ToolProvider;

/**
 * Reads the source as the compiler does and compares it with the rules of ../shared/LANGUAGE.md,
 * and with less where the class needs less: no try, no instanceof, no cast but of numbers, no list.
 */
public final class LanguageTest {
    private static final int MOST_LINES = 60;
    private static final int MOST_DEEP = 8;
    private static final int MOST_PARAMETERS = 7;
    private static final int MOST_CLASSES = 12;
    private static final int MOST_FIELDS = 20;
    private static final Set<String> LIBRARY = Set.of("Math.max", "Math.min", "Integer.bitCount", "Arrays.fill");
    private static final Set<String> IMPORTS = Set.of("java.util.Arrays", "java.util.NoSuchElementException");
    private static final Set<String> PLAIN = Set.of("int", "long", "boolean", "int[]", "long[]", "boolean[]");

    public static void main(String[] args) throws IOException {
        JavaCompiler compiler = ToolProvider.getSystemJavaCompiler();
        StandardJavaFileManager files = compiler.getStandardFileManager(null, null, null);
        JavacTask task = (JavacTask) compiler.getTask(null, files, null, List.of("-proc:none"), null,
                files.getJavaFileObjects(Path.of(args.length > 0 ? args[0] : "src/main/java/OnlyHalves.java")));
        CompilationUnitTree unit = task.parse().iterator().next();
        task.analyze();
        Reader reader = new Reader(unit, Trees.instance(task));
        reader.scan(unit, null);
        reader.lookAtWhole();
        System.out.println(reader.methods.size() + " methods in " + reader.classes + " classes, the deepest call is "
                + reader.deepest + " deep, " + reader.wrong + " slips");
        if (reader.wrong != 0 || reader.methods.size() < 100) {
            System.exit(1);
        }
    }

    private static final class Reader extends TreePathScanner<Void, Void> {
        private final CompilationUnitTree unit;
        private final Trees trees;
        private final SourcePositions positions;
        final Map<String, Set<String>> methods = new TreeMap<>();
        private final Set<String> face = new TreeSet<>();
        private final Set<String> hidden = new TreeSet<>();
        private String method = "";
        int classes;
        int deepest;
        int wrong;

        Reader(CompilationUnitTree unit, Trees trees) {
            this.unit = unit;
            this.trees = trees;
            positions = trees.getSourcePositions();
        }

        private void slip(int rule, Tree at, String words) {
            wrong++;
            long line = unit.getLineMap().getLineNumber(positions.getStartPosition(unit, at));
            System.out.println("rule " + rule + ", line " + line + ": " + words);
        }

        private void slipIf(boolean isOne, int rule, Tree at, String words) {
            if (isOne) {
                slip(rule, at, words);
            }
        }

        private Element element(Tree tree) {
            return trees.getElement(TreePath.getPath(unit, tree));
        }

        private TypeMirror type(Tree tree) {
            return trees.getTypeMirror(TreePath.getPath(unit, tree));
        }

        private boolean isOfThisFile(Element element) {
            Element at = element;
            while (at != null && at.getKind() != ElementKind.PACKAGE) {
                if (at.getSimpleName().contentEquals("OnlyHalves")) {
                    return true;
                }
                at = at.getEnclosingElement();
            }
            return false;
        }

        private boolean hasParent(Class<? extends Tree> kind) {
            for (TreePath at = getCurrentPath().getParentPath(); at != null; at = at.getParentPath()) {
                if (kind.isInstance(at.getLeaf())) {
                    return true;
                }
            }
            return false;
        }

        @Override
        public Void visitImport(ImportTree tree, Void none) {
            slipIf(!IMPORTS.contains(tree.getQualifiedIdentifier().toString()), 4, tree, "imports " + tree);
            return null;
        }

        @Override
        public Void visitClass(ClassTree tree, Void none) {
            classes++;
            Set<Modifier> modifiers = tree.getModifiers().getFlags();
            boolean isOuter = getCurrentPath().getParentPath().getLeaf() == unit;
            slipIf(isOuter && !modifiers.containsAll(Set.of(Modifier.PUBLIC, Modifier.FINAL)), 1, tree, "not public and final");
            slipIf(!isOuter && !modifiers.contains(Modifier.STATIC), 1, tree, tree.getSimpleName() + " is not static");
            slipIf(!isOuter && (modifiers.contains(Modifier.PUBLIC) || modifiers.contains(Modifier.PROTECTED)), 1, tree,
                    tree.getSimpleName() + " can be seen from outside");
            slipIf(hasParent(MethodTree.class), 2, tree, "a local class");
            int fields = 0;
            for (Tree member : tree.getMembers()) {
                if (member instanceof VariableTree) {
                    Set<Modifier> its = ((VariableTree) member).getModifiers().getFlags();
                    fields += its.contains(Modifier.STATIC) ? 0 : 1;
                    slipIf(its.contains(Modifier.STATIC) && !its.contains(Modifier.FINAL), 5, member, "static, not final");
                    slipIf(isOuter && !its.contains(Modifier.PRIVATE) && !its.contains(Modifier.PUBLIC), 1, member, "a field to be seen");
                }
                slipIf(member instanceof BlockTree, 5, member, "a block ahead of the constructor");
            }
            slipIf(fields > MOST_FIELDS, 11, tree, tree.getSimpleName() + " has " + fields + " fields");
            return super.visitClass(tree, none);
        }

        @Override
        public Void visitMethod(MethodTree tree, Void none) {
            Element made = element(tree);
            Set<Modifier> modifiers = tree.getModifiers().getFlags();
            method = name(made);
            methods.put(method, new TreeSet<>());
            boolean isOuter = made.getEnclosingElement().getSimpleName().contentEquals("OnlyHalves");
            if (made.getKind() == ElementKind.METHOD) {
                (modifiers.contains(Modifier.PUBLIC) ? face : hidden).add(tree.getName().toString());
            }
            slipIf(modifiers.contains(Modifier.PUBLIC) && !isOuter, 1, tree, method + " is public");
            slipIf(isOuter && !modifiers.contains(Modifier.PUBLIC) && !modifiers.contains(Modifier.PRIVATE), 1, tree,
                    method + " can be seen");
            slipIf(tree.getParameters().size() > MOST_PARAMETERS, 11, tree, method + " takes too many");
            slipIf(lines(tree) > MOST_LINES, 11, tree, method + " has " + lines(tree) + " lines");
            super.visitMethod(tree, none);
            method = "";
            return null;
        }

        private long lines(Tree tree) {
            return unit.getLineMap().getLineNumber(positions.getEndPosition(unit, tree))
                    - unit.getLineMap().getLineNumber(positions.getStartPosition(unit, tree)) + 1;
        }

        private static String name(Element method) {
            return method.getEnclosingElement().getSimpleName() + "." + method;
        }

        @Override
        public Void visitVariable(VariableTree tree, Void none) {
            TypeMirror its = type(tree.getType());
            String plain = its.toString();
            boolean isOwn = plain.startsWith("OnlyHalves") && !plain.endsWith("[][]");
            slipIf(!PLAIN.contains(plain) && !isOwn, 3, tree, plain + " " + tree.getName());
            return super.visitVariable(tree, none);
        }

        @Override
        public Void visitMethodInvocation(MethodInvocationTree tree, Void none) {
            ExecutableElement called = (ExecutableElement) element(tree.getMethodSelect());
            if (isOfThisFile(called)) {
                note(called);
            } else {
                String name = called.getEnclosingElement().getSimpleName() + "." + called.getSimpleName();
                boolean isObjects = called.getKind() == ElementKind.CONSTRUCTOR && name.equals("Object.<init>");
                slipIf(!isObjects && !LIBRARY.contains(name), 4, tree, "calls " + name);
            }
            return super.visitMethodInvocation(tree, none);
        }

        private void note(Element called) {
            if (!method.isEmpty()) {
                methods.get(method).add(name(called));
            }
        }

        @Override
        public Void visitNewClass(NewClassTree tree, Void none) {
            Element made = element(tree);
            if (isOfThisFile(made)) {
                note(made);
                lookAtNew(tree);
            } else {
                boolean isThrown = getCurrentPath().getParentPath().getLeaf() instanceof ThrowTree;
                slipIf(!isThrown || !tree.getIdentifier().toString().equals("NoSuchElementException"), 6, tree, "makes " + tree);
                slipIf(tree.getArguments().size() > 1, 6, tree, "tells more than a text");
                for (ExpressionTree told : tree.getArguments()) {
                    slipIf(!(told instanceof LiteralTree), 6, told, "not a written text");
                }
            }
            slipIf(tree.getClassBody() != null, 2, tree, "a class without a name");
            return super.visitNewClass(tree, none);
        }

        @Override
        public Void visitNewArray(NewArrayTree tree, Void none) {
            lookAtNew(tree);
            return super.visitNewArray(tree, none);
        }

        // What a run makes is counted: objects come with the first one, and with the first search.
        private void lookAtNew(Tree tree) {
            boolean isInMethod = hasParent(MethodTree.class);
            boolean isInConstructor = method.matches("(\\w+)\\.\\1\\(.*");
            boolean isMadeOnce = isInConstructor || method.equals("OnlyHalves.searching()");
            slipIf(isInMethod && !isMadeOnce, 12, tree, method + " makes an object");
        }

        @Override
        public Void visitThrow(ThrowTree tree, Void none) {
            slipIf(!(tree.getExpression() instanceof NewClassTree), 6, tree, "throws another thing than a new one");
            return super.visitThrow(tree, none);
        }

        @Override
        public Void visitTry(TryTree tree, Void none) {
            slip(6, tree, "a try");
            return super.visitTry(tree, none);
        }

        @Override
        public Void visitSynchronized(SynchronizedTree tree, Void none) {
            slip(6, tree, "synchronized");
            return super.visitSynchronized(tree, none);
        }

        @Override
        public Void visitAssert(AssertTree tree, Void none) {
            slip(6, tree, "assert");
            return super.visitAssert(tree, none);
        }

        @Override
        public Void visitInstanceOf(InstanceOfTree tree, Void none) {
            slip(6, tree, "instanceof");
            return super.visitInstanceOf(tree, none);
        }

        @Override
        public Void visitLambdaExpression(LambdaExpressionTree tree, Void none) {
            slip(2, tree, "a lambda");
            return super.visitLambdaExpression(tree, none);
        }

        @Override
        public Void visitMemberReference(MemberReferenceTree tree, Void none) {
            slip(2, tree, "a method reference");
            return super.visitMemberReference(tree, none);
        }

        @Override
        public Void visitWhileLoop(WhileLoopTree tree, Void none) {
            slipIf(tree.getCondition().toString().contains("true"), 9, tree, "a loop without an end");
            return super.visitWhileLoop(tree, none);
        }

        @Override
        public Void visitDoWhileLoop(DoWhileLoopTree tree, Void none) {
            slipIf(tree.getCondition().toString().contains("true"), 9, tree, "a loop without an end");
            return super.visitDoWhileLoop(tree, none);
        }

        @Override
        public Void visitForLoop(ForLoopTree tree, Void none) {
            slipIf(tree.getCondition() == null, 9, tree, "a loop without an end");
            return super.visitForLoop(tree, none);
        }

        @Override
        public Void visitLiteral(LiteralTree tree, Void none) {
            if (tree.getValue() instanceof String || tree.getValue() instanceof Character) {
                for (char sign : tree.getValue().toString().toCharArray()) {
                    slipIf(sign < 1 || sign > 127, 4, tree, "a sign beyond 127");
                }
            }
            return null;
        }

        @Override
        public Void visitBinary(BinaryTree tree, Void none) {
            boolean isText = type(tree.getLeftOperand()).getKind() == TypeKind.DECLARED
                    && type(tree.getLeftOperand()).toString().startsWith("java.");
            slipIf(isText, 6, tree, "compares or joins objects of the library");
            if (tree.getKind() == Tree.Kind.DIVIDE || tree.getKind() == Tree.Kind.REMAINDER) {
                lookAtDivisor(tree);
            }
            return super.visitBinary(tree, none);
        }

        // A divisor is a number written out, a constant, or one that the same line tests.
        private void lookAtDivisor(BinaryTree tree) {
            String divisor = tree.getRightOperand().toString();
            String around = getCurrentPath().getParentPath().getLeaf().toString();
            boolean isTested = around.contains(divisor + " > 0 ?") || around.contains(divisor + " == 0 ?");
            slipIf(!divisor.matches("[1-9][0-9]*|[A-Z_]+") && !isTested, 7, tree, "divides by " + divisor);
        }

        @Override
        public Void visitArrayAccess(ArrayAccessTree tree, Void none) {
            slipIf(type(tree.getIndex()).getKind() != TypeKind.INT, 7, tree, "an index that is no int");
            return super.visitArrayAccess(tree, none);
        }

        /** Rules about all methods together. */
        void lookAtWhole() {
            for (String name : hidden) {
                slipIf(face.contains(name), 1, unit, "a method that is not public bears the name " + name);
            }
            slipIf(classes > MOST_CLASSES, 11, unit, classes + " classes");
            for (String at : methods.keySet()) {
                deepest = Math.max(deepest, deepFrom(at, new HashMap<>()));
            }
            slipIf(deepest > MOST_DEEP, 11, unit, "calls go " + deepest + " deep");
        }

        /** How many calls stand open at most; those that can come back to where they were count once. */
        private int deepFrom(String at, Map<String, Integer> known) {
            Integer was = known.get(at);
            if (was != null) {
                return was;
            }
            Set<String> circle = circleOf(at);
            int most = 0;
            for (String one : circle) {
                for (String next : methods.getOrDefault(one, Set.of())) {
                    if (!circle.contains(next)) {
                        most = Math.max(most, deepFrom(next, known));
                    }
                }
            }
            known.put(at, 1 + most);
            return 1 + most;
        }

        private Set<String> circleOf(String at) {
            Set<String> circle = new TreeSet<>(Set.of(at));
            for (String other : reached(at)) {
                if (reached(other).contains(at)) {
                    circle.add(other);
                }
            }
            return circle;
        }

        private Set<String> reached(String from) {
            Set<String> all = new TreeSet<>();
            Set<String> edge = methods.getOrDefault(from, Set.of());
            while (!edge.isEmpty()) {
                Set<String> next = new TreeSet<>();
                for (String one : edge) {
                    if (all.add(one)) {
                        next.addAll(methods.getOrDefault(one, Set.of()));
                    }
                }
                edge = next;
            }
            return all;
        }
    }
}
