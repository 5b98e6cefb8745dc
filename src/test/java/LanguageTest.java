import com.sun.source.tree.ArrayAccessTree;
import com.sun.source.tree.BinaryTree;
import com.sun.source.tree.BlockTree;
import com.sun.source.tree.ClassTree;
import com.sun.source.tree.CompilationUnitTree;
import com.sun.source.tree.CompoundAssignmentTree;
import com.sun.source.tree.ExpressionTree;
import com.sun.source.tree.MethodInvocationTree;
import com.sun.source.tree.MethodTree;
import com.sun.source.tree.NewClassTree;
import com.sun.source.tree.ThrowTree;
import com.sun.source.tree.Tree;
import com.sun.source.tree.TypeCastTree;
import com.sun.source.tree.VariableTree;
import com.sun.source.util.JavacTask;
import com.sun.source.util.TreePathScanner;
import com.sun.source.util.Trees;
import java.io.IOException;
import java.nio.file.Files;
import java.nio.file.Path;
import java.util.HashMap;
import java.util.LinkedHashMap;
import java.util.LinkedHashSet;
import java.util.List;
import java.util.Map;
import java.util.Set;
import javax.lang.model.element.Element;
import javax.lang.model.element.ElementKind;
import javax.lang.model.element.Modifier;
import javax.lang.model.element.VariableElement;
import javax.lang.model.type.ArrayType;
import javax.lang.model.type.TypeKind;
import javax.lang.model.type.TypeMirror;
import javax.tools.JavaCompiler;
import javax.tools.StandardJavaFileManager;
import javax.tools.ToolProvider;

/** The file keeps to ../shared/LANGUAGE.md, as far as the compiler's own view of it can tell. */
public final class LanguageTest {
    private static final Path FILE = Path.of("src/main/java/LeastRows.java");
    private static final Set<String> LIBRARY = Set.of("java.lang.Math.min", "java.lang.Math.max", "java.lang.Math.abs");
    private static final Set<String> THROWN = Set.of("java.lang.IllegalArgumentException",
        "java.lang.IllegalStateException", "java.lang.IndexOutOfBoundsException");
    private static final Set<Tree.Kind> FORBIDDEN = Set.of(Tree.Kind.LAMBDA_EXPRESSION, Tree.Kind.MEMBER_REFERENCE,
        Tree.Kind.SYNCHRONIZED, Tree.Kind.ASSERT, Tree.Kind.TRY, Tree.Kind.IMPORT, Tree.Kind.PACKAGE,
        Tree.Kind.INSTANCE_OF, Tree.Kind.ANNOTATION);
    private static final int DEEPEST = 8;

    public static void main(String[] args) throws IOException {
        JavaCompiler compiler = ToolProvider.getSystemJavaCompiler();
        try (StandardJavaFileManager files = compiler.getStandardFileManager(null, null, null)) {
            JavacTask task = (JavacTask) compiler.getTask(null, files, null, List.of("-proc:none"), null,
                files.getJavaFileObjects(FILE));
            CompilationUnitTree unit = task.parse().iterator().next();
            task.analyze();
            Scanner scanner = new Scanner(Trees.instance(task), unit);
            scanner.scan(unit, null);
            scanner.checkClasses();
            scanner.checkCalls();
        }
        for (char sign : Files.readString(FILE).toCharArray()) {
            Check.holds("rule 4: the sign " + (int) sign, sign < 128);
        }
        Check.end();
    }

    private static final class Scanner extends TreePathScanner<Void, Void> {
        private final Trees trees;
        private final CompilationUnitTree unit;
        private final Map<Element, Set<Element>> calls = new LinkedHashMap<>();
        private final Map<Element, Integer> depths = new HashMap<>();
        private int classes = 0;
        private Element method = null;

        Scanner(Trees trees, CompilationUnitTree unit) {
            this.trees = trees;
            this.unit = unit;
        }

        private long line(Tree tree) {
            return unit.getLineMap().getLineNumber(trees.getSourcePositions().getStartPosition(unit, tree));
        }

        private void demand(String rule, Tree tree, boolean isKept) {
            Check.holds("line " + line(tree) + ": rule " + rule, isKept);
        }

        private Element element() {
            return trees.getElement(getCurrentPath());
        }

        private TypeMirror typeOf(ExpressionTree tree) {
            return trees.getTypeMirror(trees.getPath(unit, tree));
        }

        private static boolean isOwn(Element element) {
            Element outermost = element;
            for (Element e = element; e != null && e.getKind() != ElementKind.PACKAGE; e = e.getEnclosingElement()) {
                outermost = e;
            }
            return outermost.getSimpleName().contentEquals("LeastRows");
        }

        @Override
        public Void scan(Tree tree, Void nothing) {
            if (tree != null) {
                demand("2, 4, 6: " + tree.getKind() + " is left out", tree, !FORBIDDEN.contains(tree.getKind()));
            }
            return super.scan(tree, nothing);
        }

        @Override
        public Void visitClass(ClassTree tree, Void nothing) {
            classes++;
            int fields = 0;
            for (Tree member : tree.getMembers()) {
                demand("5: an initialiser block", member, !(member instanceof BlockTree));
                if (member instanceof VariableTree) {
                    boolean isStatic = ((VariableTree) member).getModifiers().getFlags().contains(Modifier.STATIC);
                    fields += isStatic ? 0 : 1;
                }
            }
            demand("11: a class has some twenty fields", tree, fields <= 20);
            demand("2: a class of its own is static", tree, getCurrentPath().getParentPath().getLeaf() == unit
                || tree.getModifiers().getFlags().contains(Modifier.STATIC));
            return super.visitClass(tree, nothing);
        }

        @Override
        public Void visitMethod(MethodTree tree, Void nothing) {
            Element outer = method;
            method = element();
            calls.putIfAbsent(method, new LinkedHashSet<>());
            long end = unit.getLineMap().getLineNumber(trees.getSourcePositions().getEndPosition(unit, tree));
            demand("11: a method has some sixty lines", tree, end - line(tree) < 60);
            demand("11: a method takes at most seven parameters", tree, tree.getParameters().size() <= 7);
            super.visitMethod(tree, nothing);
            method = outer;
            return null;
        }

        @Override
        public Void visitVariable(VariableTree tree, Void nothing) {
            VariableElement element = (VariableElement) element();
            demand("3: the type " + element.asType(), tree, isTypeLeft(element.asType()));
            if (element.getModifiers().contains(Modifier.STATIC)) {
                demand("5: a static field is a constant", tree, element.getConstantValue() != null);
            }
            return super.visitVariable(tree, nothing);
        }

        private static boolean isTypeLeft(TypeMirror type) {
            if (type.getKind() == TypeKind.ARRAY) {
                TypeMirror part = ((ArrayType) type).getComponentType();
                return part.getKind() != TypeKind.ARRAY && isTypeLeft(part);
            }
            String name = type.toString();
            return type.getKind().isPrimitive() || name.startsWith("LeastRows") || name.equals("java.lang.String");
        }

        @Override
        public Void visitThrow(ThrowTree tree, Void nothing) {
            demand("6: no throw in a constructor", tree, method.getKind() == ElementKind.METHOD);
            demand("6: throw new E(\"a written text\")", tree, tree.getExpression() instanceof NewClassTree);
            return super.visitThrow(tree, nothing);
        }

        @Override
        public Void visitNewClass(NewClassTree tree, Void nothing) {
            String name = typeOf(tree).toString();
            boolean isThrown = getCurrentPath().getParentPath().getLeaf() instanceof ThrowTree;
            demand("4, 6: new " + name, tree, isThrown ? THROWN.contains(name) : name.startsWith("LeastRows."));
            for (ExpressionTree argument : tree.getArguments()) {
                demand("6: a written text", argument, !isThrown || argument.getKind() == Tree.Kind.STRING_LITERAL);
            }
            return super.visitNewClass(tree, nothing);
        }

        @Override
        public Void visitMethodInvocation(MethodInvocationTree tree, Void nothing) {
            Element called = element();
            String name = called.getEnclosingElement() + "." + called.getSimpleName();
            boolean isSuper = tree.getMethodSelect().toString().equals("super");
            demand("4: the call " + name, tree, isSuper || isOwn(called) || LIBRARY.contains(name));
            if (isOwn(called) && method != null) {
                calls.get(method).add(called);
            }
            return super.visitMethodInvocation(tree, nothing);
        }

        /** All arrays are reached in the few methods that look at the index first. */
        @Override
        public Void visitArrayAccess(ArrayAccessTree tree, Void nothing) {
            String name = method == null ? "" : method.getSimpleName().toString();
            boolean isMadeThere = method != null && method.getKind() == ElementKind.CONSTRUCTOR;
            demand("7: an index is looked at before it is used", tree, isMadeThere
                || Set.of("numberIn", "setIn", "copyAll", "numberAt", "stateAt").contains(name));
            return super.visitArrayAccess(tree, nothing);
        }

        @Override
        public Void visitBinary(BinaryTree tree, Void nothing) {
            String type = typeOf(tree).toString();
            demand("10: texts are not joined by +", tree, !type.equals("java.lang.String"));
            boolean isDivision = tree.getKind() == Tree.Kind.DIVIDE || tree.getKind() == Tree.Kind.REMAINDER;
            if (isDivision && !type.equals("double")) {
                demand("7: a divisor is a constant", tree, isConstant(tree.getRightOperand()));
            }
            return super.visitBinary(tree, nothing);
        }

        private boolean isConstant(ExpressionTree tree) {
            Element named = trees.getElement(trees.getPath(unit, tree));
            return tree.getKind() == Tree.Kind.INT_LITERAL && !tree.toString().equals("0")
                || named instanceof VariableElement && ((VariableElement) named).getConstantValue() != null;
        }

        @Override
        public Void visitCompoundAssignment(CompoundAssignmentTree tree, Void nothing) {
            demand("7: no division by an assignment", tree, tree.getKind() != Tree.Kind.DIVIDE_ASSIGNMENT
                && tree.getKind() != Tree.Kind.REMAINDER_ASSIGNMENT);
            return super.visitCompoundAssignment(tree, nothing);
        }

        @Override
        public Void visitTypeCast(TypeCastTree tree, Void nothing) {
            demand("6: a cast to " + tree.getType(), tree, typeOf(tree).getKind().isPrimitive());
            return super.visitTypeCast(tree, nothing);
        }

        void checkClasses() {
            Check.holds("rule 11: some twelve classes, not " + classes, classes <= 12);
        }

        /** Recursion is a private static method that calls itself; what else is called goes eight deep. */
        void checkCalls() {
            for (Element caller : calls.keySet()) {
                boolean isPrivateStatic = caller.getModifiers().contains(Modifier.PRIVATE)
                    && caller.getModifiers().contains(Modifier.STATIC);
                Check.holds("rule 8: " + caller + " calls itself", !calls.get(caller).contains(caller)
                    || isPrivateStatic);
                Check.holds("rule 11: " + caller + " goes too deep", depth(caller) <= DEEPEST);
            }
        }

        private int depth(Element caller) {
            if (depths.containsKey(caller)) {
                return depths.get(caller);
            }
            // Methods that call one another would come back here, and stand out as too deep.
            depths.put(caller, DEEPEST + 1);
            int deepest = 0;
            for (Element called : calls.getOrDefault(caller, Set.of())) {
                if (called != caller) {
                    deepest = Math.max(deepest, depth(called));
                }
            }
            depths.put(caller, deepest + 1);
            return deepest + 1;
        }
    }
}
