import com.sun.source.tree.ArrayAccessTree;
import com.sun.source.tree.AssignmentTree;
import com.sun.source.tree.BinaryTree;
import com.sun.source.tree.BlockTree;
import com.sun.source.tree.ClassTree;
import com.sun.source.tree.CompilationUnitTree;
import com.sun.source.tree.CompoundAssignmentTree;
import com.sun.source.tree.ConditionalExpressionTree;
import com.sun.source.tree.DoWhileLoopTree;
import com.sun.source.tree.EnhancedForLoopTree;
import com.sun.source.tree.ExpressionTree;
import com.sun.source.tree.ForLoopTree;
import com.sun.source.tree.IdentifierTree;
import com.sun.source.tree.InstanceOfTree;
import com.sun.source.tree.LambdaExpressionTree;
import com.sun.source.tree.LiteralTree;
import com.sun.source.tree.MemberReferenceTree;
import com.sun.source.tree.MemberSelectTree;
import com.sun.source.tree.MethodInvocationTree;
import com.sun.source.tree.MethodTree;
import com.sun.source.tree.NewArrayTree;
import com.sun.source.tree.NewClassTree;
import com.sun.source.tree.ParenthesizedTree;
import com.sun.source.tree.SynchronizedTree;
import com.sun.source.tree.ThrowTree;
import com.sun.source.tree.Tree;
import com.sun.source.tree.TryTree;
import com.sun.source.tree.TypeCastTree;
import com.sun.source.tree.UnaryTree;
import com.sun.source.tree.VariableTree;
import com.sun.source.tree.WhileLoopTree;
import com.sun.source.util.JavacTask;
import com.sun.source.util.TreePath;
import com.sun.source.util.TreePathScanner;
import com.sun.source.util.TreeScanner;
import com.sun.source.util.Trees;
import java.io.IOException;
import java.nio.file.Path;
import java.util.ArrayList;
import java.util.HashMap;
import java.util.HashSet;
import java.util.LinkedHashMap;
import java.util.List;
import java.util.Map;
import java.util.Set;
import javax.lang.model.element.Element;
import javax.lang.model.element.ElementKind;
import javax.lang.model.element.ExecutableElement;
import javax.lang.model.element.Modifier;
import javax.lang.model.element.TypeElement;
import javax.lang.model.type.ArrayType;
import javax.lang.model.type.TypeKind;
import javax.lang.model.type.TypeMirror;
import javax.tools.JavaCompiler;
import javax.tools.StandardJavaFileManager;
import javax.tools.ToolProvider;

/**
 * The rules of LANGUAGE.md, as far as the compiler's own tree of the class shows them. Where a rule leaves more than
 * the class uses (lists, try, while, recursion by other means), the test asks for the less that is used.
 */
public final class LanguageTest {
    private static final Set<String> EXCEPTIONS = Set.of("IllegalStateException", "IllegalArgumentException",
            "IndexOutOfBoundsException", "ArithmeticException", "UnsupportedOperationException", "NoSuchElementException",
            "RuntimeException");
    private static final Set<String> LIBRARY = Set.of("Math.floorMod", "Math.floorDiv", "Math.min", "Math.max", "Math.abs",
            "Integer.compare", "Integer.bitCount", "System.arraycopy", "Arrays.copyOf", "Arrays.copyOfRange",
            "Arrays.fill");
    private static final Set<Tree.Kind> FLOATING = Set.of(Tree.Kind.PLUS, Tree.Kind.MINUS, Tree.Kind.MULTIPLY,
            Tree.Kind.DIVIDE, Tree.Kind.LESS_THAN, Tree.Kind.LESS_THAN_EQUAL, Tree.Kind.GREATER_THAN,
            Tree.Kind.GREATER_THAN_EQUAL, Tree.Kind.EQUAL_TO, Tree.Kind.NOT_EQUAL_TO);
    private static final Set<Tree.Kind> BOUNDING = Set.of(Tree.Kind.LESS_THAN, Tree.Kind.LESS_THAN_EQUAL,
            Tree.Kind.GREATER_THAN, Tree.Kind.GREATER_THAN_EQUAL);
    private static final Set<TypeKind> FLOATS = Set.of(TypeKind.FLOAT, TypeKind.DOUBLE);
    private static final Check check = new Check("LanguageTest");

    private final Trees trees;
    private final CompilationUnitTree unit;
    private final List<ClassTree> classes = new ArrayList<>();
    /** Each method of the class and of those inside, by its element. */
    private final Map<ExecutableElement, MethodTree> methods = new LinkedHashMap<>();
    private final Map<ExecutableElement, Set<ExecutableElement>> calls = new HashMap<>();

    private LanguageTest(Trees trees, CompilationUnitTree unit) {
        this.trees = trees;
        this.unit = unit;
    }

    public static void main(String[] args) throws IOException {
        String place = args.length == 0 ? "src/main/java/Vaultgarden.java" : args[0];
        JavaCompiler compiler = ToolProvider.getSystemJavaCompiler();
        try (StandardJavaFileManager files = compiler.getStandardFileManager(null, null, null)) {
            JavacTask task = (JavacTask) compiler.getTask(null, files, null, List.of("-proc:none"), null,
                    files.getJavaFileObjects(Path.of(place)));
            CompilationUnitTree unit = task.parse().iterator().next();
            task.analyze();
            new LanguageTest(Trees.instance(task), unit).allRules();
        }
        check.end();
    }

    private void allRules() {
        oneFile();
        new Walk().scan(unit, null);
        sizes();
        recursion();
        depthOfCalls();
    }

    private void rule(int number, Tree where, String told, boolean isKept) {
        long position = trees.getSourcePositions().getStartPosition(unit, where);
        check.due("rule " + number + ", line " + unit.getLineMap().getLineNumber(position) + ": " + told, isKept, true);
    }

    /** Rules 1 and 2: one file, one class, the exceptions' import alone. */
    private void oneFile() {
        rule(1, unit, "there is no package", unit.getPackage() == null);
        rule(1, unit, "there is one class", unit.getTypeDecls().size() == 1);
        for (Tree imported : unit.getImports()) {
            rule(4, imported, "imports", imported.toString().trim().equals("import java.util.NoSuchElementException;"));
        }
    }

    /** Rule 11. */
    private void sizes() {
        rule(11, unit, "some twelve classes", classes.size() <= 12);
        for (ClassTree type : classes) {
            int fields = 0;
            for (Tree member : type.getMembers()) {
                boolean isField = member instanceof VariableTree;
                fields += isField && !((VariableTree) member).getModifiers().getFlags().contains(Modifier.STATIC) ? 1 : 0;
            }
            rule(11, type, type.getSimpleName() + " has " + fields + " fields", fields <= 20);
        }
        for (MethodTree method : methods.values()) {
            rule(11, method, method.getName() + " is long", linesOf(method) <= 60);
            rule(11, method, method.getName() + " takes many parameters", method.getParameters().size() <= 7);
        }
    }

    private long linesOf(Tree tree) {
        long start = trees.getSourcePositions().getStartPosition(unit, tree);
        long end = trees.getSourcePositions().getEndPosition(unit, tree);
        return start < 0 || end < 0 ? 0 : unit.getLineMap().getLineNumber(end) - unit.getLineMap().getLineNumber(start) + 1;
    }

    /** Rule 8: what calls itself, or is called in a ring, carries a level that it compares. */
    private void recursion() {
        int found = 0;
        for (Map.Entry<ExecutableElement, MethodTree> method : methods.entrySet()) {
            if (reached(method.getKey()).contains(method.getKey())) {
                found++;
                boolean isBounded = comparedIn(method.getValue()).contains("level");
                rule(8, method.getValue(), method.getKey() + " looks at its level", isBounded);
                Set<Modifier> flags = method.getValue().getModifiers().getFlags();
                rule(8, method.getValue(), method.getKey() + " is private and static",
                        flags.contains(Modifier.PRIVATE) && flags.contains(Modifier.STATIC));
            }
        }
        check.due("methods that call themselves", found, 1);
    }

    private Set<ExecutableElement> reached(ExecutableElement from) {
        Set<ExecutableElement> seen = new HashSet<>();
        List<ExecutableElement> open = new ArrayList<>(calls.getOrDefault(from, Set.of()));
        while (!open.isEmpty()) {
            ExecutableElement next = open.remove(open.size() - 1);
            if (seen.add(next)) {
                open.addAll(calls.getOrDefault(next, Set.of()));
            }
        }
        return seen;
    }

    /** Rule 11: calls that are no recursion go at most eight deep. */
    private void depthOfCalls() {
        int deepest = 0;
        for (ExecutableElement method : methods.keySet()) {
            deepest = Math.max(deepest, depthOf(method));
        }
        check.due("calls go " + deepest + " deep", deepest <= 8 && deepest > 3, true);
    }

    private int depthOf(ExecutableElement method) {
        int deepest = 0;
        for (ExecutableElement called : calls.getOrDefault(method, Set.of())) {
            if (!called.equals(method)) {
                deepest = Math.max(deepest, depthOf(called));
            }
        }
        return deepest + 1;
    }

    /** The comparisons by one of <, <=, > and >= in a method, as they are written. */
    private static Set<String> comparisonsIn(Tree tree) {
        Set<String> comparisons = new HashSet<>();
        new TreeScanner<Void, Void>() {
            @Override
            public Void visitBinary(BinaryTree node, Void nothing) {
                if (BOUNDING.contains(node.getKind())) {
                    comparisons.add(node.toString());
                }
                return super.visitBinary(node, nothing);
            }
        }.scan(tree, null);
        return comparisons;
    }

    private static Set<String> comparedIn(Tree tree) {
        Set<String> compared = new HashSet<>();
        for (String comparison : comparisonsIn(tree)) {
            compared.addAll(List.of(comparison.split(" [<>]=? ")));
        }
        return compared;
    }

    private final class Walk extends TreePathScanner<Void, Void> {
        private Element elementHere() {
            return trees.getElement(getCurrentPath());
        }

        private TypeMirror typeOf(Tree tree) {
            return trees.getTypeMirror(new TreePath(getCurrentPath(), tree));
        }

        private MethodTree methodHere() {
            for (TreePath path = getCurrentPath(); path != null; path = path.getParentPath()) {
                if (path.getLeaf() instanceof MethodTree) {
                    return (MethodTree) path.getLeaf();
                }
            }
            return null;
        }

        private boolean isInConstructor() {
            MethodTree method = methodHere();
            return method != null && method.getReturnType() == null;
        }

        private boolean isInLoop() {
            for (TreePath path = getCurrentPath(); path != null; path = path.getParentPath()) {
                if (path.getLeaf() instanceof ForLoopTree) {
                    return true;
                }
            }
            return false;
        }

        private boolean isOwn(Element element) {
            Element type = element;
            while (type != null && type.getKind() != ElementKind.PACKAGE) {
                if (type instanceof TypeElement
                        && ((TypeElement) type).getQualifiedName().contentEquals("Vaultgarden")) {
                    return true;
                }
                type = type.getEnclosingElement();
            }
            return false;
        }

        // ---- rules 1, 2, 5 and 11: classes and what they hold ----

        @Override
        public Void visitClass(ClassTree node, Void nothing) {
            classes.add(node);
            Set<Modifier> flags = node.getModifiers().getFlags();
            boolean isOuter = getCurrentPath().getParentPath().getLeaf() == unit;
            rule(2, node, "is a class", node.getKind() == Tree.Kind.CLASS);
            rule(1, node, "final", flags.contains(Modifier.FINAL));
            rule(1, node, isOuter ? "public" : "private and static", isOuter ? flags.contains(Modifier.PUBLIC)
                    : flags.contains(Modifier.PRIVATE) && flags.contains(Modifier.STATIC));
            rule(2, node, "stands in the class", isOuter
                    || getCurrentPath().getParentPath().getLeaf() == unit.getTypeDecls().get(0));
            rule(2, node, "extends nothing", node.getExtendsClause() == null && node.getImplementsClause().isEmpty());
            for (Tree member : node.getMembers()) {
                rule(5, member, "no block of its own", !(member instanceof BlockTree));
            }
            return super.visitClass(node, nothing);
        }

        @Override
        public Void visitMethod(MethodTree node, Void nothing) {
            ExecutableElement element = (ExecutableElement) elementHere();
            methods.put(element, node);
            calls.computeIfAbsent(element, key -> new HashSet<>());
            if (node.getReturnType() != null) {
                rule(3, node, "what it returns", isAllowed(element.getReturnType()));
            }
            return super.visitMethod(node, nothing);
        }

        @Override
        public Void visitVariable(VariableTree node, Void nothing) {
            Element element = elementHere();
            rule(3, node, "the type of " + node, isAllowed(element.asType()));
            if (element.getKind() == ElementKind.FIELD && element.getModifiers().contains(Modifier.STATIC)) {
                rule(5, node, "static fields are final", element.getModifiers().contains(Modifier.FINAL));
                rule(5, node, "and constants", element.asType().getKind().isPrimitive() && node.getInitializer() != null
                        || element.asType().toString().equals("java.lang.String"));
            }
            return super.visitVariable(node, nothing);
        }

        private boolean isAllowed(TypeMirror type) {
            if (type.getKind() == TypeKind.ARRAY) {
                TypeMirror of = ((ArrayType) type).getComponentType();
                return of.getKind() != TypeKind.ARRAY && isAllowed(of);
            }
            return type.getKind().isPrimitive() || type.getKind() == TypeKind.VOID
                    || type.toString().startsWith("Vaultgarden.") || type.toString().equals("java.lang.String");
        }

        // ---- rules 2, 6 and 10: what is not written ----

        @Override
        public Void visitLambdaExpression(LambdaExpressionTree node, Void nothing) {
            rule(2, node, "no lambda", false);
            return super.visitLambdaExpression(node, nothing);
        }

        @Override
        public Void visitMemberReference(MemberReferenceTree node, Void nothing) {
            rule(2, node, "no method reference", false);
            return super.visitMemberReference(node, nothing);
        }

        @Override
        public Void visitTry(TryTree node, Void nothing) {
            rule(6, node, "no try", false);
            return super.visitTry(node, nothing);
        }

        @Override
        public Void visitSynchronized(SynchronizedTree node, Void nothing) {
            rule(6, node, "no synchronized", false);
            return super.visitSynchronized(node, nothing);
        }

        @Override
        public Void visitInstanceOf(InstanceOfTree node, Void nothing) {
            rule(6, node, "no instanceof", false);
            return super.visitInstanceOf(node, nothing);
        }

        @Override
        public Void visitThrow(ThrowTree node, Void nothing) {
            rule(6, node, "no throw in a constructor", !isInConstructor());
            boolean isNew = node.getExpression() instanceof NewClassTree;
            rule(6, node, "throws a new one", isNew);
            if (isNew) {
                NewClassTree made = (NewClassTree) node.getExpression();
                rule(6, node, "one of those named", EXCEPTIONS.contains(made.getIdentifier().toString()));
                rule(6, node, "with a written text", made.getArguments().isEmpty()
                        || made.getArguments().size() == 1 && made.getArguments().get(0) instanceof LiteralTree);
            }
            return super.visitThrow(node, nothing);
        }

        // ---- rules 4, 8 and 12: calls and new objects ----

        @Override
        public Void visitMethodInvocation(MethodInvocationTree node, Void nothing) {
            ExecutableElement called = (ExecutableElement) trees.getElement(getCurrentPath());
            MethodTree method = methodHere();
            if (!isOwn(called)) {
                String name = called.getEnclosingElement().getSimpleName() + "." + called.getSimpleName();
                boolean isOfObject = name.equals("Object.<init>");
                rule(4, node, "calls " + name, isOfObject || LIBRARY.contains(name));
                for (ExpressionTree argument : node.getArguments()) {
                    rule(3, node, "no Math on floats", !FLOATS.contains(typeOf(argument).getKind()));
                }
            } else if (method != null) {
                ExecutableElement caller = (ExecutableElement) trees.getElement(trees.getPath(unit, method));
                calls.computeIfAbsent(caller, key -> new HashSet<>()).add(called);
                rule(12, node, "a constructor calls " + called, !isInConstructor()
                        || called.getModifiers().contains(Modifier.STATIC));
            }
            return super.visitMethodInvocation(node, nothing);
        }

        @Override
        public Void visitNewClass(NewClassTree node, Void nothing) {
            boolean isThrown = getCurrentPath().getParentPath().getLeaf() instanceof ThrowTree;
            Element type = trees.getElement(new TreePath(getCurrentPath(), node.getIdentifier()));
            rule(4, node, "makes " + node, isThrown || isOwn(type));
            rule(2, node, "no anonymous class", node.getClassBody() == null);
            rule(12, node, "no object made in a loop", isThrown || !isInLoop());
            if (!isThrown && methodHere() != null) {
                ExecutableElement caller = (ExecutableElement) trees.getElement(trees.getPath(unit, methodHere()));
                calls.computeIfAbsent(caller, key -> new HashSet<>()).add((ExecutableElement) elementHere());
            }
            return super.visitNewClass(node, nothing);
        }

        @Override
        public Void visitMemberSelect(MemberSelectTree node, Void nothing) {
            Element element = elementHere();
            boolean isLength = node.getIdentifier().contentEquals("length");
            if (element != null && element.getKind() == ElementKind.FIELD && !isLength) {
                rule(4, node, "a field of the library: " + node, isOwn(element));
            }
            return super.visitMemberSelect(node, nothing);
        }

        // ---- rule 7: looked at before ----

        @Override
        public Void visitArrayAccess(ArrayAccessTree node, Void nothing) {
            String length = node.getExpression() + ".length";
            String index = node.getIndex().toString();
            Set<String> comparisons = comparisonsIn(methodHere());
            boolean isCompared = comparisons.contains(index + " < " + length)
                    || comparisons.contains(index + " >= " + length)
                    || comparisons.contains(index.replace(" + 1", "") + " < " + length + " - 1");
            rule(7, node, "the index of " + node + " is compared with " + length, isCompared);
            return super.visitArrayAccess(node, nothing);
        }

        @Override
        public Void visitNewArray(NewArrayTree node, Void nothing) {
            rule(3, node, "one dimension", node.getDimensions().size() == 1 && node.getInitializers() == null);
            for (ExpressionTree length : node.getDimensions()) {
                boolean isConstant = length instanceof LiteralTree || length.toString().matches("[A-Z_0-9 */+-]+");
                boolean isCompared = methodHere() != null && comparedIn(methodHere()).contains(length.toString());
                rule(7, node, "the length " + length + " is constant or compared", isConstant || isCompared);
            }
            return super.visitNewArray(node, nothing);
        }

        @Override
        public Void visitTypeCast(TypeCastTree node, Void nothing) {
            rule(7, node, "casts numbers alone", typeOf(node.getType()).getKind().isPrimitive());
            return super.visitTypeCast(node, nothing);
        }

        @Override
        public Void visitBinary(BinaryTree node, Void nothing) {
            TypeMirror left = typeOf(node.getLeftOperand());
            TypeMirror right = typeOf(node.getRightOperand());
            boolean isFloat = FLOATS.contains(left.getKind()) || FLOATS.contains(right.getKind());
            boolean isEqual = node.getKind() == Tree.Kind.EQUAL_TO || node.getKind() == Tree.Kind.NOT_EQUAL_TO;
            rule(3, node, "on floats: " + node, !isFloat || FLOATING.contains(node.getKind()));
            rule(6, node, "compares texts: " + node, !isEqual || !left.toString().startsWith("java.lang"));
            rule(10, node, "joins texts: " + node, !left.toString().equals("java.lang.String")
                    && !right.toString().equals("java.lang.String"));
            if (node.getKind() == Tree.Kind.DIVIDE || node.getKind() == Tree.Kind.REMAINDER) {
                divides(node, node.getRightOperand(), isFloat);
            }
            return super.visitBinary(node, nothing);
        }

        @Override
        public Void visitCompoundAssignment(CompoundAssignmentTree node, Void nothing) {
            TypeMirror type = typeOf(node.getVariable());
            rule(3, node, "on floats: " + node, !FLOATS.contains(type.getKind()));
            rule(7, node, "divides: " + node, node.getKind() != Tree.Kind.DIVIDE_ASSIGNMENT
                    && node.getKind() != Tree.Kind.REMAINDER_ASSIGNMENT);
            return super.visitCompoundAssignment(node, nothing);
        }

        /** A constant that is not 0; a float may also be divided by what a condition round it has looked at. */
        private void divides(BinaryTree node, ExpressionTree by, boolean isFloat) {
            boolean isConstant = by.toString().matches("[A-Z_]+|[1-9][0-9]*|[1-9][0-9]*\\.0F?");
            boolean isBehindACondition = false;
            for (TreePath path = getCurrentPath(); path != null; path = path.getParentPath()) {
                isBehindACondition |= path.getLeaf() instanceof ConditionalExpressionTree;
            }
            rule(7, node, "divides: " + node, isConstant || isFloat && isBehindACondition);
        }

        // ---- rule 9: loops ----

        @Override
        public Void visitWhileLoop(WhileLoopTree node, Void nothing) {
            rule(9, node, "no while", false);
            return super.visitWhileLoop(node, nothing);
        }

        @Override
        public Void visitDoWhileLoop(DoWhileLoopTree node, Void nothing) {
            rule(9, node, "no do", false);
            return super.visitDoWhileLoop(node, nothing);
        }

        @Override
        public Void visitEnhancedForLoop(EnhancedForLoopTree node, Void nothing) {
            rule(9, node, "no for over a list", typeOf(node.getExpression()).getKind() == TypeKind.ARRAY);
            return super.visitEnhancedForLoop(node, nothing);
        }

        /** One counter that is compared, goes on by one, and is set nowhere else. */
        @Override
        public Void visitForLoop(ForLoopTree node, Void nothing) {
            boolean hasCounter = node.getInitializer().size() == 1 && node.getInitializer().get(0) instanceof VariableTree;
            rule(9, node, "has one counter", hasCounter && node.getCondition() != null && node.getUpdate().size() == 1);
            if (hasCounter && node.getCondition() != null && node.getUpdate().size() == 1) {
                String counter = ((VariableTree) node.getInitializer().get(0)).getName().toString();
                String update = node.getUpdate().get(0).toString();
                rule(9, node, "goes on by one", update.equals(counter + "++;") || update.equals(counter + "--;"));
                rule(9, node, "compares its counter", isBoundedBy(node.getCondition(), counter));
                rule(9, node, "sets its counter nowhere else", !isSetIn(node.getStatement(), counter));
            }
            return super.visitForLoop(node, nothing);
        }

        /** The comparison of the counter must end the loop by itself: it stands alone or beside others with &&. */
        private boolean isBoundedBy(ExpressionTree condition, String counter) {
            if (condition instanceof ParenthesizedTree) {
                return isBoundedBy(((ParenthesizedTree) condition).getExpression(), counter);
            }
            if (!(condition instanceof BinaryTree)) {
                return false;
            }
            BinaryTree both = (BinaryTree) condition;
            if (both.getKind() == Tree.Kind.CONDITIONAL_AND) {
                return isBoundedBy(both.getLeftOperand(), counter) || isBoundedBy(both.getRightOperand(), counter);
            }
            return BOUNDING.contains(both.getKind()) && both.getLeftOperand().toString().matches(counter + "( \\+ 1)?");
        }

        private boolean isSetIn(Tree body, String name) {
            boolean[] isSet = new boolean[1];
            new TreeScanner<Void, Void>() {
                @Override
                public Void visitAssignment(AssignmentTree node, Void none) {
                    isSet[0] |= node.getVariable().toString().equals(name);
                    return super.visitAssignment(node, none);
                }

                @Override
                public Void visitCompoundAssignment(CompoundAssignmentTree node, Void none) {
                    isSet[0] |= node.getVariable().toString().equals(name);
                    return super.visitCompoundAssignment(node, none);
                }

                @Override
                public Void visitUnary(UnaryTree node, Void none) {
                    boolean isStep = node.getKind().name().endsWith("CREMENT");
                    isSet[0] |= isStep && node.getExpression().toString().equals(name);
                    return super.visitUnary(node, none);
                }
            }.scan(body, null);
            return isSet[0];
        }

        // ---- rule 3: texts and names ----

        @Override
        public Void visitLiteral(LiteralTree node, Void nothing) {
            String written = String.valueOf(node.getValue());
            rule(4, node, "signs from 1 to 127", written.chars().allMatch(sign -> sign >= 1 && sign <= 127));
            return super.visitLiteral(node, nothing);
        }

        @Override
        public Void visitIdentifier(IdentifierTree node, Void nothing) {
            Element element = elementHere();
            boolean isType = element != null && element.getKind().isClass() && !isOwn(element);
            if (isType) {
                String name = element.getSimpleName().toString();
                rule(4, node, "names " + name, EXCEPTIONS.contains(name) || name.equals("Math"));
            }
            return super.visitIdentifier(node, nothing);
        }
    }
}
