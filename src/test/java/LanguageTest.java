import com.sun.source.tree.ArrayAccessTree;
import com.sun.source.tree.AssertTree;
import com.sun.source.tree.AssignmentTree;
import com.sun.source.tree.BinaryTree;
import com.sun.source.tree.BlockTree;
import com.sun.source.tree.ClassTree;
import com.sun.source.tree.CompilationUnitTree;
import com.sun.source.tree.CompoundAssignmentTree;
import com.sun.source.tree.DoWhileLoopTree;
import com.sun.source.tree.EnhancedForLoopTree;
import com.sun.source.tree.ExpressionTree;
import com.sun.source.tree.ForLoopTree;
import com.sun.source.tree.ImportTree;
import com.sun.source.tree.InstanceOfTree;
import com.sun.source.tree.LambdaExpressionTree;
import com.sun.source.tree.LiteralTree;
import com.sun.source.tree.MemberReferenceTree;
import com.sun.source.tree.MethodInvocationTree;
import com.sun.source.tree.MethodTree;
import com.sun.source.tree.NewArrayTree;
import com.sun.source.tree.NewClassTree;
import com.sun.source.tree.SynchronizedTree;
import com.sun.source.tree.ThrowTree;
import com.sun.source.tree.Tree;
import com.sun.source.tree.TryTree;
import com.sun.source.tree.TypeCastTree;
import com.sun.source.tree.UnaryTree;
import com.sun.source.tree.VariableTree;
import com.sun.source.tree.WhileLoopTree;
import com.sun.source.util.JavacTask;
import com.sun.source.util.TreePath;
import com.sun.source.util.TreePathScanner;
import com.sun.source.util.Trees;
import java.io.IOException;
import java.nio.file.Files;
import java.nio.file.Path;
import java.util.ArrayList;
import java.util.HashMap;
import java.util.HashSet;
import java.util.List;
import java.util.Map;
import java.util.Set;
import java.util.TreeMap;
import java.util.TreeSet;
import javax.lang.model.element.Element;
import javax.lang.model.element.ElementKind;
import javax.lang.model.element.ExecutableElement;
import javax.lang.model.element.Modifier;
import javax.lang.model.element.TypeElement;
import javax.lang.model.type.ArrayType;
import javax.lang.model.type.DeclaredType;
import javax.lang.model.type.TypeKind;
import javax.lang.model.type.TypeMirror;
import javax.tools.JavaCompiler;
import javax.tools.JavaFileObject;
import javax.tools.StandardJavaFileManager;
import javax.tools.ToolProvider;

/** The rules of LANGUAGE.md, 1 to 13, as far as the compiler's own trees of the source show them. */
final class LanguageTest {
    private static final Path SOURCE = Path.of("src/main/java/Dramwright.java");
    private static final int MOST_CLASSES = 12;
    private static final int MOST_FIELDS = 20;
    private static final int MOST_PARAMETERS = 7;
    private static final int MOST_LINES = 60;
    private static final int MOST_DEEP = 8;
    /** What the source shows, looked at once. */
    private static Seen seen;

    private static final Set<String> LIBRARY = Set.of(
        "String.length", "String.charAt", "String.isEmpty", "String.equals", "String.indexOf", "String.substring",
        "String.toCharArray", "StringBuilder.append", "StringBuilder.charAt", "StringBuilder.setCharAt",
        "StringBuilder.setLength", "StringBuilder.deleteCharAt", "StringBuilder.reverse", "StringBuilder.length",
        "StringBuilder.toString", "ArrayList.add", "ArrayList.get", "ArrayList.set", "ArrayList.remove",
        "ArrayList.size", "ArrayList.isEmpty", "ArrayList.clear", "Integer.bitCount", "Long.bitCount", "Math.max",
        "Math.min", "Math.abs", "Math.floorDiv", "Math.floorMod", "Integer.compare", "Long.compare",
        "System.arraycopy", "Arrays.copyOf", "Arrays.copyOfRange", "Arrays.fill", "Array.clone");
    private static final Set<String> EXCEPTIONS = Set.of(
        "IllegalStateException", "IllegalArgumentException", "IndexOutOfBoundsException", "ArithmeticException",
        "UnsupportedOperationException", "NoSuchElementException", "RuntimeException");
    private static final Set<String> MADE = Set.of("StringBuilder", "ArrayList");
    private static final Set<TypeKind> NUMBERS = Set.of(
        TypeKind.INT, TypeKind.LONG, TypeKind.SHORT, TypeKind.BYTE, TypeKind.CHAR, TypeKind.DOUBLE, TypeKind.FLOAT);

    private LanguageTest() {
    }

    /** What the trees of the source show, each fault as a text with its line. */
    private static final class Seen extends TreePathScanner<Void, Void> {
        private final Trees trees;
        private final CompilationUnitTree unit;
        final Map<String, Set<String>> faults = new TreeMap<>();
        /** By method, the methods of the file that it calls. */
        final Map<Element, Set<Element>> calls = new HashMap<>();
        private int loops;
        private Element method;

        Seen(Trees trees, CompilationUnitTree unit) {
            this.trees = trees;
            this.unit = unit;
        }

        private void fault(String rule, String what, Tree tree) {
            long position = trees.getSourcePositions().getStartPosition(unit, tree);
            long line = position < 0 ? 0 : unit.getLineMap().getLineNumber(position);
            faults.computeIfAbsent(rule, key -> new TreeSet<>()).add(what + " in line " + line);
        }

        private Element element(Tree tree) {
            return trees.getElement(TreePath.getPath(unit, tree));
        }

        private TypeMirror type(Tree tree) {
            return trees.getTypeMirror(TreePath.getPath(unit, tree));
        }

        private static boolean isOwn(Element element) {
            Element at = element;
            while (at.getEnclosingElement() != null && at.getEnclosingElement().getKind() != ElementKind.PACKAGE) {
                at = at.getEnclosingElement();
            }
            return at.getSimpleName().contentEquals("Dramwright");
        }

        private static String name(TypeMirror type) {
            return type.getKind() == TypeKind.DECLARED
                ? ((DeclaredType) type).asElement().getSimpleName().toString() : type.toString();
        }

        private boolean isAllowed(TypeMirror type) {
            if (NUMBERS.contains(type.getKind()) || type.getKind() == TypeKind.BOOLEAN || type.getKind() == TypeKind.VOID) {
                return true;
            }
            if (type.getKind() == TypeKind.ARRAY) {
                TypeMirror part = ((ArrayType) type).getComponentType();
                boolean isTable = part.getKind() == TypeKind.ARRAY
                    && NUMBERS.contains(((ArrayType) part).getComponentType().getKind());
                return isTable || part.getKind() != TypeKind.ARRAY && !name(part).equals("String") && isAllowed(part);
            }
            if (type.getKind() != TypeKind.DECLARED) {
                return false;
            }
            if (isOwn(((DeclaredType) type).asElement())) {
                return true;
            }
            List<? extends TypeMirror> parts = ((DeclaredType) type).getTypeArguments();
            if (name(type).equals("ArrayList") || name(type).equals("List")) {
                return parts.size() == 1 && (name(parts.get(0)).equals("Integer")
                    || parts.get(0).getKind() == TypeKind.DECLARED && isOwn(((DeclaredType) parts.get(0)).asElement()));
            }
            return name(type).equals("String") || name(type).equals("StringBuilder");
        }

        @Override
        public Void visitImport(ImportTree tree, Void none) {
            if (tree.isStatic() || tree.getQualifiedIdentifier().toString().endsWith("*")) {
                fault("4", "import " + tree.getQualifiedIdentifier(), tree);
            }
            return null;
        }

        @Override
        public Void visitClass(ClassTree tree, Void none) {
            TypeElement one = (TypeElement) element(tree);
            Set<Modifier> modifiers = one.getModifiers();
            if (one.getEnclosingElement().getKind() == ElementKind.PACKAGE) {
                if (!modifiers.equals(Set.of(Modifier.PUBLIC, Modifier.FINAL))) {
                    fault("1", "the class is " + modifiers, tree);
                }
            } else if (one.getEnclosingElement().getKind() != ElementKind.CLASS || one.getSimpleName().length() == 0
                || !modifiers.contains(Modifier.STATIC) || modifiers.contains(Modifier.PUBLIC)
                || modifiers.contains(Modifier.PROTECTED)) {
                fault("2", "class " + one + " " + modifiers, tree);
            }
            int fields = 0;
            for (Tree member : tree.getMembers()) {
                if (member.getKind() == Tree.Kind.VARIABLE && !element(member).getModifiers().contains(Modifier.STATIC)) {
                    fields++;
                }
                if (member.getKind() == Tree.Kind.BLOCK && ((BlockTree) member).isStatic()) {
                    fault("5", "static block", member);
                }
            }
            if (fields > MOST_FIELDS) {
                fault("11", fields + " fields of " + one, tree);
            }
            return super.visitClass(tree, none);
        }

        @Override
        public Void visitVariable(VariableTree tree, Void none) {
            Element variable = element(tree);
            if (!isAllowed(variable.asType())) {
                fault("3", variable + " is " + variable.asType(), tree);
            }
            if (variable.getModifiers().contains(Modifier.STATIC)) {
                lookAtConstant(tree, variable);
            }
            return super.visitVariable(tree, none);
        }

        private void lookAtConstant(VariableTree tree, Element variable) {
            TypeMirror type = variable.asType();
            boolean isFinal = variable.getModifiers().contains(Modifier.FINAL);
            boolean isWritten = tree.getInitializer() != null;
            boolean isPlain = type.getKind() == TypeKind.INT || type.getKind() == TypeKind.LONG
                || type.getKind() == TypeKind.BOOLEAN || type.getKind() == TypeKind.CHAR || name(type).equals("String");
            boolean isRow = type.getKind() == TypeKind.ARRAY && isWritten
                && tree.getInitializer().getKind() == Tree.Kind.NEW_ARRAY
                && ((NewArrayTree) tree.getInitializer()).getInitializers() != null;
            if (!isFinal || !isWritten || !isPlain && !isRow) {
                fault("5", "static " + variable, tree);
            }
        }

        @Override
        public Void visitMethod(MethodTree tree, Void none) {
            Element before = method;
            method = element(tree);
            calls.computeIfAbsent(method, key -> new HashSet<>());
            if (!isAllowed(((ExecutableElement) method).getReturnType())) {
                fault("3", method + " gives " + tree.getReturnType(), tree);
            }
            if (tree.getParameters().size() > MOST_PARAMETERS) {
                fault("11", "parameters of " + method, tree);
            }
            long from = trees.getSourcePositions().getStartPosition(unit, tree);
            long to = trees.getSourcePositions().getEndPosition(unit, tree);
            if (from >= 0 && to >= 0
                && unit.getLineMap().getLineNumber(to) - unit.getLineMap().getLineNumber(from) >= MOST_LINES) {
                fault("11", "lines of " + method, tree);
            }
            super.visitMethod(tree, none);
            method = before;
            return null;
        }

        @Override
        public Void visitMethodInvocation(MethodInvocationTree tree, Void none) {
            call(element(tree.getMethodSelect()), tree);
            return super.visitMethodInvocation(tree, none);
        }

        @Override
        public Void visitNewClass(NewClassTree tree, Void none) {
            String name = name(type(tree.getIdentifier()));
            if (tree.getClassBody() != null) {
                fault("2", "class of " + name + " without a name", tree);
            }
            if (loops > 0 && !EXCEPTIONS.contains(name)) {
                fault("12", "new " + name + " in a loop", tree);
            }
            if (isOwn(element(tree))) {
                call(element(tree), tree);
            } else if (!MADE.contains(name) && !EXCEPTIONS.contains(name)) {
                fault("4", "new " + name, tree);
            }
            return super.visitNewClass(tree, none);
        }

        private void call(Element called, Tree tree) {
            Element owner = called.getEnclosingElement();
            if (isOwn(called)) {
                if (method != null) {
                    calls.computeIfAbsent(method, key -> new HashSet<>()).add(called);
                }
            } else if (called.getKind() != ElementKind.CONSTRUCTOR
                && !LIBRARY.contains(owner.getSimpleName() + "." + called.getSimpleName())) {
                fault("4", owner + "." + called, tree);
            }
        }

        @Override
        public Void visitNewArray(NewArrayTree tree, Void none) {
            if (loops > 0) {
                fault("12", "a new array in a loop", tree);
            }
            return super.visitNewArray(tree, none);
        }

        @Override
        public Void visitThrow(ThrowTree tree, Void none) {
            ExpressionTree thrown = tree.getExpression();
            boolean isNew = thrown.getKind() == Tree.Kind.NEW_CLASS;
            if (!isNew || !EXCEPTIONS.contains(name(type(thrown))) || ((NewClassTree) thrown).getArguments().size() > 1) {
                fault("6", "throw of " + thrown, tree);
            }
            if (method == null || method.getKind() == ElementKind.CONSTRUCTOR) {
                fault("6", "throw in a constructor", tree);
            }
            return super.visitThrow(tree, none);
        }

        @Override
        public Void visitTry(TryTree tree, Void none) {
            fault("6", "try, which this class does without", tree);
            return super.visitTry(tree, none);
        }

        @Override
        public Void visitSynchronized(SynchronizedTree tree, Void none) {
            fault("6", "synchronized", tree);
            return super.visitSynchronized(tree, none);
        }

        @Override
        public Void visitAssert(AssertTree tree, Void none) {
            fault("6", "assert", tree);
            return super.visitAssert(tree, none);
        }

        @Override
        public Void visitInstanceOf(InstanceOfTree tree, Void none) {
            fault("6", "instanceof, which this class does without", tree);
            return super.visitInstanceOf(tree, none);
        }

        @Override
        public Void visitTypeCast(TypeCastTree tree, Void none) {
            if (!type(tree.getType()).getKind().isPrimitive()) {
                fault("6", "cast to " + tree.getType(), tree);
            }
            return super.visitTypeCast(tree, none);
        }

        @Override
        public Void visitLambdaExpression(LambdaExpressionTree tree, Void none) {
            fault("2", "lambda", tree);
            return super.visitLambdaExpression(tree, none);
        }

        @Override
        public Void visitMemberReference(MemberReferenceTree tree, Void none) {
            fault("2", "method reference", tree);
            return super.visitMemberReference(tree, none);
        }

        private void lookAtLoop(Tree tree, ExpressionTree condition) {
            if (condition == null || condition.toString().equals("(true)") || condition.toString().equals("true")) {
                fault("9", "a loop without an end", tree);
            }
        }

        @Override
        public Void visitForLoop(ForLoopTree tree, Void none) {
            lookAtLoop(tree, tree.getCondition());
            loops++;
            super.visitForLoop(tree, none);
            loops--;
            return null;
        }

        @Override
        public Void visitWhileLoop(WhileLoopTree tree, Void none) {
            lookAtLoop(tree, tree.getCondition());
            loops++;
            super.visitWhileLoop(tree, none);
            loops--;
            return null;
        }

        @Override
        public Void visitDoWhileLoop(DoWhileLoopTree tree, Void none) {
            lookAtLoop(tree, tree.getCondition());
            loops++;
            super.visitDoWhileLoop(tree, none);
            loops--;
            return null;
        }

        @Override
        public Void visitEnhancedForLoop(EnhancedForLoopTree tree, Void none) {
            if (type(tree.getExpression()).getKind() != TypeKind.ARRAY) {
                fault("12", "for over " + tree.getExpression() + " makes an iterator", tree);
            }
            loops++;
            super.visitEnhancedForLoop(tree, none);
            loops--;
            return null;
        }

        @Override
        public Void visitBinary(BinaryTree tree, Void none) {
            if (tree.getKind() == Tree.Kind.PLUS && name(type(tree)).equals("String")) {
                fault("10", "texts joined by +", tree);
            }
            boolean isSame = tree.getKind() == Tree.Kind.EQUAL_TO || tree.getKind() == Tree.Kind.NOT_EQUAL_TO;
            Set<String> texts = Set.of("String", "Integer");
            if (isSame && texts.contains(name(type(tree.getLeftOperand()))) && texts.contains(name(type(tree.getRightOperand())))) {
                fault("6", tree.toString(), tree);
            }
            return super.visitBinary(tree, none);
        }

        @Override
        public Void visitLiteral(LiteralTree tree, Void none) {
            if (tree.getValue() instanceof String) {
                for (char sign : ((String) tree.getValue()).toCharArray()) {
                    if (sign < 1 || sign > 127) {
                        fault("4", "the sign " + (int) sign + " in a constant", tree);
                    }
                }
            }
            return super.visitLiteral(tree, none);
        }

        @Override
        public Void visitAssignment(AssignmentTree tree, Void none) {
            change(tree.getVariable());
            return super.visitAssignment(tree, none);
        }

        @Override
        public Void visitCompoundAssignment(CompoundAssignmentTree tree, Void none) {
            change(tree.getVariable());
            return super.visitCompoundAssignment(tree, none);
        }

        @Override
        public Void visitUnary(UnaryTree tree, Void none) {
            if (tree.getKind().toString().contains("CREMENT")) {
                change(tree.getExpression());
            }
            return super.visitUnary(tree, none);
        }

        /** An element of a static array must not be changed. */
        private void change(ExpressionTree changed) {
            if (changed.getKind() != Tree.Kind.ARRAY_ACCESS) {
                return;
            }
            Element row = element(((ArrayAccessTree) changed).getExpression());
            if (row != null && row.getModifiers().contains(Modifier.STATIC)) {
                fault("5", changed + " is changed", changed);
            }
        }
    }

    private static Seen seen() throws IOException {
        if (seen != null) {
            return seen;
        }
        JavaCompiler compiler = ToolProvider.getSystemJavaCompiler();
        try (StandardJavaFileManager files = compiler.getStandardFileManager(null, null, null)) {
            Iterable<? extends JavaFileObject> sources = files.getJavaFileObjects(SOURCE);
            JavacTask task = (JavacTask) compiler.getTask(null, files, null, null, null, sources);
            CompilationUnitTree unit = task.parse().iterator().next();
            task.analyze();
            seen = new Seen(Trees.instance(task), unit);
            seen.scan(unit, null);
            return seen;
        }
    }

    private static void holds(String rule) throws IOException {
        Check.same("faults against rule " + rule, seen().faults.getOrDefault(rule, Set.of()), Set.of());
    }

    static void rule1OnePublicFinalClass() throws IOException {
        holds("1");
    }

    static void rule1NoPrivateMethodBearsTheNameOfAPublicOne() throws IOException {
        Set<String> names = new HashSet<>();
        for (Element method : seen().calls.keySet()) {
            if (method.getModifiers().contains(Modifier.PUBLIC)) {
                names.add(method.getSimpleName().toString());
            }
        }
        Check.same("public methods and the constructor", names.size(), 49);
        for (Element method : seen().calls.keySet()) {
            Check.isFalse(method + " of " + method.getEnclosingElement(), method.getKind() == ElementKind.METHOD
                && !method.getModifiers().contains(Modifier.PUBLIC) && names.contains(method.getSimpleName().toString()));
        }
    }

    static void rule2Classes() throws IOException {
        holds("2");
    }

    static void rule3Types() throws IOException {
        holds("3");
    }

    static void rule4TheLibrary() throws IOException {
        holds("4");
        String source = Files.readString(SOURCE);
        for (int i = 0; i < source.length(); i++) {
            char sign = source.charAt(i);
            Check.isTrue("sign " + i + " is a line's end or 32 to 126", sign == 10 || sign >= 32 && sign <= 126);
        }
    }

    static void rule5StaticFields() throws IOException {
        holds("5");
    }

    static void rule6Exceptions() throws IOException {
        holds("6");
    }

    static void rule9EachLoopHasAnEnd() throws IOException {
        holds("9");
    }

    static void rule10TextsAreNotJoinedByPlus() throws IOException {
        holds("10");
    }

    static void rule11Limits() throws IOException {
        holds("11");
        Set<Element> classes = new HashSet<>();
        for (Element method : seen().calls.keySet()) {
            classes.add(method.getEnclosingElement());
        }
        Check.isTrue("classes: " + classes.size(), classes.size() <= MOST_CLASSES);
    }

    static void rule12NothingIsMadeInALoop() throws IOException {
        holds("12");
    }

    /** Rules 8 and 11: no call comes back to itself, and calls go at most eight deep, that of the face counted. */
    static void rules8And11CallsGoAtMostEightDeep() throws IOException {
        Map<Element, Set<Element>> calls = seen().calls;
        Map<Element, Integer> depths = new HashMap<>();
        for (Element method : calls.keySet()) {
            int depth = depth(method, calls, depths, new ArrayList<>());
            if (method.getModifiers().contains(Modifier.PUBLIC)) {
                Check.isTrue(method + " goes " + depth + " deep", depth <= MOST_DEEP);
            }
        }
    }

    private static int depth(Element method, Map<Element, Set<Element>> calls, Map<Element, Integer> depths, List<Element> open) {
        Check.isFalse(method + " comes back to itself", open.contains(method));
        if (!depths.containsKey(method)) {
            open.add(method);
            int deepest = 0;
            for (Element called : calls.getOrDefault(method, Set.of())) {
                deepest = Math.max(deepest, depth(called, calls, depths, open));
            }
            open.remove(open.size() - 1);
            depths.put(method, deepest + 1);
        }
        return depths.get(method);
    }
}
