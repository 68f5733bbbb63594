import com.sun.source.tree.AssertTree;
import com.sun.source.tree.BinaryTree;
import com.sun.source.tree.BlockTree;
import com.sun.source.tree.ClassTree;
import com.sun.source.tree.CompilationUnitTree;
import com.sun.source.tree.CompoundAssignmentTree;
import com.sun.source.tree.DoWhileLoopTree;
import com.sun.source.tree.EnhancedForLoopTree;
import com.sun.source.tree.ExpressionStatementTree;
import com.sun.source.tree.ExpressionTree;
import com.sun.source.tree.ForLoopTree;
import com.sun.source.tree.ImportTree;
import com.sun.source.tree.LambdaExpressionTree;
import com.sun.source.tree.LiteralTree;
import com.sun.source.tree.MemberReferenceTree;
import com.sun.source.tree.MemberSelectTree;
import com.sun.source.tree.MethodInvocationTree;
import com.sun.source.tree.MethodTree;
import com.sun.source.tree.NewArrayTree;
import com.sun.source.tree.NewClassTree;
import com.sun.source.tree.SynchronizedTree;
import com.sun.source.tree.ThrowTree;
import com.sun.source.tree.Tree;
import com.sun.source.tree.TryTree;
import com.sun.source.tree.TypeCastTree;
import com.sun.source.tree.VariableTree;
import com.sun.source.tree.WhileLoopTree;
import com.sun.source.util.JavacTask;
import com.sun.source.util.SourcePositions;
import com.sun.source.util.TreePath;
import com.sun.source.util.TreePathScanner;
import com.sun.source.util.Trees;
import java.io.File;
import java.io.IOException;
import java.util.ArrayDeque;
import java.util.ArrayList;
import java.util.Deque;
import java.util.HashMap;
import java.util.LinkedHashSet;
import java.util.List;
import java.util.Map;
import java.util.Set;
import java.util.TreeSet;
import javax.lang.model.element.Element;
import javax.lang.model.element.Modifier;
import javax.lang.model.element.TypeElement;
import javax.lang.model.element.VariableElement;
import javax.tools.JavaCompiler;
import javax.tools.StandardJavaFileManager;
import javax.tools.ToolProvider;

/**
 * What ../shared/LANGUAGE.md lets the program use, read from its text by the compiler's own reader.
 * It is stricter than the rules where the program needs less: no loop but a counted one, no catch at
 * all, no recursion. Who needs more loosens it here, as far as the rule that is named lets them.
 */
public final class LanguageTest {
    private static final Check check = new Check("LanguageTest");
    private static final String PROGRAM = "src/main/java/Invoicebridge.java";

    private static final Set<String> IMPORTS = Set.of("java.util.ArrayList", "java.util.List");
    private static final Set<String> OWN_EXCEPTIONS = Set.of("IllegalStateException", "IllegalArgumentException",
        "IndexOutOfBoundsException", "ArithmeticException", "UnsupportedOperationException",
        "NoSuchElementException", "RuntimeException");
    private static final Set<String> BUILDER = Set.of("append", "charAt", "setCharAt", "setLength",
        "deleteCharAt", "reverse", "length", "toString");
    // The compiler names a StringBuilder's calls also by the class above it.
    private static final Map<String, Set<String>> LIBRARY = Map.of(
        "java.lang.StringBuilder", BUILDER,
        "java.lang.AbstractStringBuilder", BUILDER,
        "java.util.ArrayList", Set.of("add", "get", "set", "remove", "size", "isEmpty", "clear"),
        "java.lang.String", Set.of("length", "charAt", "isEmpty", "equals", "indexOf", "substring", "toCharArray"),
        "java.lang.Math", Set.of("max", "min", "abs", "floorDiv", "floorMod"));
    private static final Set<String> SIMPLE_TYPES = Set.of("int", "long", "short", "byte", "char", "boolean",
        "int[]", "long[]", "short[]", "byte[]", "char[]", "boolean[]", "java.lang.String", "java.lang.StringBuilder");
    private static final Set<String> CONSTANTS = Set.of("int", "long", "boolean", "char", "java.lang.String");

    private static final int MOST_PARAMETERS = 7;
    private static final int MOST_LINES = 60;
    private static final int MOST_CLASSES = 12;
    private static final int MOST_FIELDS = 20;
    private static final int DEEPEST_CALL = 8;

    public static void main(String[] args) throws IOException {
        JavaCompiler compiler = ToolProvider.getSystemJavaCompiler();
        check.due("there is a compiler", compiler == null ? 0 : 1, 1);
        if (compiler != null) {
            try (StandardJavaFileManager files = compiler.getStandardFileManager(null, null, null)) {
                read((JavacTask) compiler.getTask(null, files, null, List.of("--release", "17", "-proc:none"), null,
                    files.getJavaFileObjects(new File(PROGRAM))));
            }
        }
        check.end();
    }

    private static void read(JavacTask task) throws IOException {
        List<CompilationUnitTree> units = new ArrayList<>();
        task.parse().forEach(units::add);
        task.analyze();
        check.due("files of the program", units.size(), 1);
        Reader reader = new Reader(Trees.instance(task), units.get(0));
        reader.scan(units.get(0), null);
        reader.end();
    }

    private static final class Reader extends TreePathScanner<Void, Void> {
        private final Trees trees;
        private final SourcePositions positions;
        private final CompilationUnitTree unit;
        private final Map<Element, Set<Element>> calls = new HashMap<>();
        private final Deque<Element> methods = new ArrayDeque<>();
        private int classes = 0;
        private int loops = 0;

        Reader(Trees trees, CompilationUnitTree unit) {
            this.trees = trees;
            this.positions = trees.getSourcePositions();
            this.unit = unit;
        }

        private long line(long position) {
            return unit.getLineMap().getLineNumber(position);
        }

        private void rule(int number, Tree tree, String what, boolean isKept) {
            check.due("rule " + number + ", line " + line(positions.getStartPosition(unit, tree)) + ": " + what, isKept ? 1 : 0, 1);
        }

        private Element elementOf(Tree tree) {
            return trees.getElement(TreePath.getPath(unit, tree));
        }

        private String typeOf(Tree tree) {
            return String.valueOf(trees.getTypeMirror(TreePath.getPath(unit, tree)));
        }

        private static boolean isOwn(String type) {
            return type.equals("Invoicebridge") || type.startsWith("Invoicebridge.");
        }

        private static boolean isType(String type) {
            boolean isList = type.startsWith("java.util.ArrayList<") || type.startsWith("java.util.List<");
            String kept = isList ? type.substring(type.indexOf('<') + 1, type.length() - 1) : type;
            return isOwn(kept) || (isList ? kept.equals("java.lang.Integer") : SIMPLE_TYPES.contains(kept));
        }

        @Override
        public Void visitImport(ImportTree tree, Void nothing) {
            rule(4, tree, "an import of " + tree.getQualifiedIdentifier(),
                !tree.isStatic() && IMPORTS.contains(tree.getQualifiedIdentifier().toString()));
            return super.visitImport(tree, nothing);
        }

        @Override
        public Void visitClass(ClassTree tree, Void nothing) {
            classes++;
            Set<Modifier> modifiers = tree.getModifiers().getFlags();
            if (classes > 1) {
                rule(1, tree, "a class that can be seen", !modifiers.contains(Modifier.PUBLIC) && !modifiers.contains(Modifier.PROTECTED));
                rule(1, tree, "a class that is not static", modifiers.contains(Modifier.STATIC));
            }
            int fields = 0;
            for (Tree member : tree.getMembers()) {
                if (member instanceof VariableTree field && !field.getModifiers().getFlags().contains(Modifier.STATIC)) {
                    fields++;
                }
                if (member instanceof BlockTree block) {
                    rule(5, block, "an initialiser block", false);
                }
            }
            rule(11, tree, "a class of " + fields + " fields", fields <= MOST_FIELDS);
            return super.visitClass(tree, nothing);
        }

        @Override
        public Void visitVariable(VariableTree tree, Void nothing) {
            String type = typeOf(tree);
            rule(3, tree, "a variable of the type " + type, isType(type));
            if (tree.getModifiers().getFlags().contains(Modifier.STATIC)) {
                rule(5, tree, "a static field that is not final", tree.getModifiers().getFlags().contains(Modifier.FINAL));
                rule(5, tree, "a static field of the type " + type, CONSTANTS.contains(type));
            }
            return super.visitVariable(tree, nothing);
        }

        @Override
        public Void visitMethod(MethodTree tree, Void nothing) {
            Element method = elementOf(tree);
            long first = line(positions.getStartPosition(unit, tree));
            long last = line(Math.max(positions.getStartPosition(unit, tree), positions.getEndPosition(unit, tree)));
            rule(6, tree, "a method " + tree.getName(), !Set.of("equals", "hashCode", "toString", "finalize").contains(tree.getName().toString()));
            rule(6, tree, "a synchronized method", !tree.getModifiers().getFlags().contains(Modifier.SYNCHRONIZED));
            rule(11, tree, "a method of " + tree.getParameters().size() + " parameters", tree.getParameters().size() <= MOST_PARAMETERS);
            rule(11, tree, "a method of " + (last - first + 1) + " lines", last - first < MOST_LINES);
            methods.push(method);
            calls.putIfAbsent(method, new LinkedHashSet<>());
            super.visitMethod(tree, nothing);
            methods.pop();
            return null;
        }

        @Override
        public Void visitMethodInvocation(MethodInvocationTree tree, Void nothing) {
            Element called = elementOf(tree);
            String owner = String.valueOf(called == null ? null : called.getEnclosingElement());
            if (isOwn(owner)) {
                noteCall(called);
            } else if (!called.getSimpleName().contentEquals("<init>")) {
                rule(4, tree, "a call of " + owner + "." + called.getSimpleName(),
                    LIBRARY.getOrDefault(owner, Set.of()).contains(called.getSimpleName().toString()));
            }
            return super.visitMethodInvocation(tree, nothing);
        }

        private void noteCall(Element called) {
            if (!methods.isEmpty()) {
                calls.get(methods.peek()).add(called);
            }
        }

        @Override
        public Void visitNewClass(NewClassTree tree, Void nothing) {
            Element made = elementOf(tree);
            String type = made == null ? "" : ((TypeElement) made.getEnclosingElement()).getQualifiedName().toString();
            boolean isThrown = getCurrentPath().getParentPath().getLeaf() instanceof ThrowTree;
            rule(4, tree, "a new " + type, isThrown || isOwn(type) || type.equals("java.util.ArrayList") || type.equals("java.lang.StringBuilder"));
            rule(2, tree, "a class without a name", tree.getClassBody() == null);
            rule(12, tree, "a new object in a loop", loops == 0 || isThrown);
            if (isOwn(type)) {
                noteCall(made);
            }
            return super.visitNewClass(tree, nothing);
        }

        @Override
        public Void visitNewArray(NewArrayTree tree, Void nothing) {
            rule(12, tree, "a new array in a loop", loops == 0);
            for (ExpressionTree length : tree.getDimensions()) {
                Element constant = elementOf(length);
                rule(7, length, "a length that is no constant",
                    length instanceof LiteralTree || constant != null && constant.getModifiers().contains(Modifier.FINAL));
            }
            return super.visitNewArray(tree, nothing);
        }

        @Override
        public Void visitThrow(ThrowTree tree, Void nothing) {
            boolean isWritten = tree.getExpression() instanceof NewClassTree made
                && OWN_EXCEPTIONS.contains(made.getIdentifier().toString())
                && made.getArguments().size() <= 1
                && made.getArguments().stream().allMatch(text -> text.getKind() == Tree.Kind.STRING_LITERAL);
            rule(6, tree, "what is thrown: " + tree.getExpression(), isWritten);
            rule(6, tree, "thrown in a constructor", !methods.isEmpty() && !methods.peek().getSimpleName().contentEquals("<init>"));
            return super.visitThrow(tree, nothing);
        }

        @Override
        public Void visitTry(TryTree tree, Void nothing) {
            rule(6, tree, "a try", false);
            return super.visitTry(tree, nothing);
        }

        @Override
        public Void visitSynchronized(SynchronizedTree tree, Void nothing) {
            rule(6, tree, "a synchronized", false);
            return super.visitSynchronized(tree, nothing);
        }

        @Override
        public Void visitAssert(AssertTree tree, Void nothing) {
            rule(6, tree, "an assert", false);
            return super.visitAssert(tree, nothing);
        }

        @Override
        public Void visitLambdaExpression(LambdaExpressionTree tree, Void nothing) {
            rule(2, tree, "a lambda", false);
            return super.visitLambdaExpression(tree, nothing);
        }

        @Override
        public Void visitMemberReference(MemberReferenceTree tree, Void nothing) {
            rule(2, tree, "a method reference", false);
            return super.visitMemberReference(tree, nothing);
        }

        @Override
        public Void visitTypeCast(TypeCastTree tree, Void nothing) {
            rule(7, tree, "a cast to " + tree.getType(), SIMPLE_TYPES.contains(tree.getType().toString()));
            return super.visitTypeCast(tree, nothing);
        }

        @Override
        public Void visitBinary(BinaryTree tree, Void nothing) {
            boolean isText = typeOf(tree.getLeftOperand()).equals("java.lang.String") || typeOf(tree.getRightOperand()).equals("java.lang.String");
            rule(10, tree, "texts joined or compared by " + tree.getKind(), !isText);
            if (tree.getKind() == Tree.Kind.DIVIDE || tree.getKind() == Tree.Kind.REMAINDER) {
                rule(7, tree, "a divisor that is no constant", isConstant(tree.getRightOperand()));
            }
            return super.visitBinary(tree, nothing);
        }

        @Override
        public Void visitCompoundAssignment(CompoundAssignmentTree tree, Void nothing) {
            rule(10, tree, "texts joined by " + tree.getKind(), !typeOf(tree.getVariable()).equals("java.lang.String"));
            if (tree.getKind() == Tree.Kind.DIVIDE_ASSIGNMENT || tree.getKind() == Tree.Kind.REMAINDER_ASSIGNMENT) {
                rule(7, tree, "a divisor that is no constant", isConstant(tree.getExpression()));
            }
            return super.visitCompoundAssignment(tree, nothing);
        }

        private boolean isConstant(Tree tree) {
            Element named = elementOf(tree);
            return tree instanceof LiteralTree literal ? !"0".equals(literal.toString())
                : named instanceof VariableElement field && field.getConstantValue() != null
                    && !field.getConstantValue().equals(0);
        }

        @Override
        public Void visitForLoop(ForLoopTree tree, Void nothing) {
            rule(9, tree, "a loop that counts nothing", isCounted(tree));
            loops++;
            super.visitForLoop(tree, nothing);
            loops--;
            return null;
        }

        /** Of the form for (int i = ..; i < ..; i++), and nothing else changes i. */
        private static boolean isCounted(ForLoopTree tree) {
            if (tree.getInitializer().size() != 1 || tree.getUpdate().size() != 1 || !(tree.getInitializer().get(0) instanceof VariableTree)) {
                return false;
            }
            String counter = ((VariableTree) tree.getInitializer().get(0)).getName().toString();
            String condition = String.valueOf(tree.getCondition());
            String body = tree.getStatement().toString();
            ExpressionStatementTree update = tree.getUpdate().get(0);
            return update.getExpression().toString().equals(counter + "++")
                && (condition.startsWith(counter + " < ") || condition.startsWith(counter + " <= "))
                && !condition.contains("||")
                && !body.matches("(?s).*\\b" + counter + "\\s*(=[^=]|\\+\\+|--|[-+*/%]=).*");
        }

        @Override
        public Void visitWhileLoop(WhileLoopTree tree, Void nothing) {
            rule(9, tree, "a while", false);
            return super.visitWhileLoop(tree, nothing);
        }

        @Override
        public Void visitDoWhileLoop(DoWhileLoopTree tree, Void nothing) {
            rule(9, tree, "a do", false);
            return super.visitDoWhileLoop(tree, nothing);
        }

        @Override
        public Void visitEnhancedForLoop(EnhancedForLoopTree tree, Void nothing) {
            rule(12, tree, "a loop that makes an iterator", typeOf(tree.getExpression()).endsWith("[]"));
            loops++;
            super.visitEnhancedForLoop(tree, nothing);
            loops--;
            return null;
        }

        @Override
        public Void visitMemberSelect(MemberSelectTree tree, Void nothing) {
            rule(13, tree, "System", !tree.getExpression().toString().equals("System"));
            return super.visitMemberSelect(tree, nothing);
        }

        void end() {
            check.due("rule 11: some classes, at most " + MOST_CLASSES, classes > 0 && classes <= MOST_CLASSES ? 1 : 0, 1);
            check.due("rule 12: all methods are read", calls.size() > 25 ? 1 : 0, 1);
            Set<String> tooDeep = new TreeSet<>();
            for (Element method : calls.keySet()) {
                if (depth(method, 1) > DEEPEST_CALL) {
                    tooDeep.add(method.toString());
                }
            }
            check.due("rules 8 and 11: methods whose calls go too deep or round", tooDeep.toString(), "[]");
        }

        /** How many calls stand open at once; round calls end above the bound. */
        private int depth(Element method, int open) {
            int deepest = open;
            if (open <= DEEPEST_CALL) {
                for (Element called : calls.getOrDefault(method, Set.of())) {
                    deepest = Math.max(deepest, depth(called, open + 1));
                }
            }
            return deepest;
        }
    }
}
