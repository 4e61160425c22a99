import com.sun.source.tree.AssertTree;
import com.sun.source.tree.BinaryTree;
import com.sun.source.tree.BlockTree;
import com.sun.source.tree.ClassTree;
import com.sun.source.tree.CompilationUnitTree;
import com.sun.source.tree.DoWhileLoopTree;
import com.sun.source.tree.ForLoopTree;
import com.sun.source.tree.IdentifierTree;
import com.sun.source.tree.ImportTree;
import com.sun.source.tree.InstanceOfTree;
import com.sun.source.tree.LambdaExpressionTree;
import com.sun.source.tree.MemberReferenceTree;
import com.sun.source.tree.MemberSelectTree;
import com.sun.source.tree.MethodInvocationTree;
import com.sun.source.tree.MethodTree;
import com.sun.source.tree.NewClassTree;
import com.sun.source.tree.PrimitiveTypeTree;
import com.sun.source.tree.SynchronizedTree;
import com.sun.source.tree.ThrowTree;
import com.sun.source.tree.Tree;
import com.sun.source.tree.TryTree;
import com.sun.source.tree.TypeCastTree;
import com.sun.source.tree.VariableTree;
import com.sun.source.tree.WhileLoopTree;
import com.sun.source.util.JavacTask;
import com.sun.source.util.SourcePositions;
import com.sun.source.util.TreeScanner;
import com.sun.source.util.Trees;
import java.io.IOException;
import java.nio.file.Path;
import java.util.HashMap;
import java.util.List;
import java.util.Map;
import java.util.Set;
import java.util.TreeSet;
import javax.lang.model.element.Modifier;
import javax.tools.JavaCompiler;
import javax.tools.StandardJavaFileManager;
import javax.tools.ToolProvider;

/**
 * The rules of ../shared/LANGUAGE.md that can be read off the class's source. It is stricter than they are
 * where the class does without something (try, casts of objects, recursion, objects made in loops but for
 * constructors): who needs one of these looks at the rule, and then lets it pass here. Rule 1: FaceTest.
 */
public final class LanguageTest extends TreeScanner<Void, Void> {
    private static final Set<String> EXCEPTIONS = Set.of("IllegalStateException", "IllegalArgumentException",
        "IndexOutOfBoundsException", "ArithmeticException", "UnsupportedOperationException", "NoSuchElementException",
        "RuntimeException");
    private static final Set<String> LIBRARY_TYPES = Set.of("String", "StringBuilder", "Integer", "ArrayList", "List");
    private static final Set<String> STATIC_CALLS = Set.of("Math.max", "Math.min", "Math.abs", "Math.floorDiv",
        "Math.floorMod", "Integer.compare", "Long.compare", "Integer.bitCount", "Long.bitCount", "System.arraycopy",
        "Arrays.copyOf", "Arrays.copyOfRange", "Arrays.fill", "List.of");
    private static final Set<String> OBJECT_CALLS = Set.of("length", "charAt", "isEmpty", "indexOf", "substring",
        "toCharArray", "append", "setCharAt", "setLength", "deleteCharAt", "reverse", "toString", "add", "get", "set",
        "remove", "size", "clear", "clone");
    private static final int MOST_CLASSES = 12;
    private static final int MOST_FIELDS = 20;
    private static final int MOST_PARAMETERS = 7;
    private static final int MOST_LINES = 60;
    private static final int DEEPEST = 8;

    private final CompilationUnitTree unit;
    private final SourcePositions positions;
    private final Set<String> ownTypes = new TreeSet<>();
    private final Set<String> ownMethods = new TreeSet<>();
    private final Map<String, Set<String>> calls = new HashMap<>();
    private MethodTree method;
    private int classDepth = 0;
    private int loops = 0;

    private LanguageTest(CompilationUnitTree unit, SourcePositions positions) {
        this.unit = unit;
        this.positions = positions;
    }

    public static void main(String[] args) throws IOException {
        Path source = Path.of(System.getProperty("project", "."), "src", "main", "java", "LateCarries.java");
        JavaCompiler compiler = ToolProvider.getSystemJavaCompiler();
        try (StandardJavaFileManager files = compiler.getStandardFileManager(null, null, null)) {
            JavacTask task = (JavacTask) compiler.getTask(null, files, null, List.of("-proc:none"), null,
                files.getJavaFileObjects(source));
            CompilationUnitTree unit = task.parse().iterator().next();
            LanguageTest test = new LanguageTest(unit, Trees.instance(task).getSourcePositions());
            test.collectOwn();
            test.wholeFile();
            test.scan(unit, null);
            test.depths();
        }
        Check.finish("LanguageTest");
    }

    private void holds(String rule, Tree where, boolean is) {
        long line = unit.getLineMap().getLineNumber(positions.getStartPosition(unit, where));
        Check.same("line " + line + ": rule " + rule, is ? "holds" : "does not hold", "holds");
    }

    private void collectOwn() {
        new TreeScanner<Void, Void>() {
            @Override
            public Void visitClass(ClassTree tree, Void none) {
                ownTypes.add(tree.getSimpleName().toString());
                return super.visitClass(tree, none);
            }

            @Override
            public Void visitMethod(MethodTree tree, Void none) {
                ownMethods.add(tree.getName().toString());
                return super.visitMethod(tree, none);
            }
        }.scan(unit, null);
    }

    private void wholeFile() {
        Check.same("rule: no package line", unit.getPackageName() == null ? 1 : 0, 1);
        Check.same("rule 1: one class in the file", unit.getTypeDecls().size(), 1);
        Check.same("rule 11: some twelve classes", ownTypes.size() <= MOST_CLASSES ? 1 : 0, 1);
        for (ImportTree one : unit.getImports()) {
            holds("4: import of what stands there", one, !one.isStatic()
                && one.getQualifiedIdentifier().toString().matches("java\\.util\\.(ArrayList|List|Arrays|Iterator|NoSuchElementException)"));
        }
    }

    // ---- classes, fields and methods

    @Override
    public Void visitClass(ClassTree tree, Void none) {
        Set<Modifier> modifiers = tree.getModifiers().getFlags();
        holds("2: classes inside are static", tree, classDepth == 0 || modifiers.contains(Modifier.STATIC));
        holds("2: classes inside are not public", tree, classDepth == 0 || !modifiers.contains(Modifier.PUBLIC));
        int fields = 0;
        for (Tree member : tree.getMembers()) {
            if (member instanceof VariableTree) {
                boolean isStatic = ((VariableTree) member).getModifiers().getFlags().contains(Modifier.STATIC);
                fields += isStatic ? 0 : 1;
                holds("5: static fields are final constants", member, !isStatic || isConstant((VariableTree) member));
            }
            holds("5: no static initialiser block", member, !(member instanceof BlockTree));
        }
        holds("11: some twenty fields", tree, fields <= MOST_FIELDS);
        classDepth++;
        super.visitClass(tree, none);
        classDepth--;
        return null;
    }

    private static boolean isConstant(VariableTree field) {
        return field.getModifiers().getFlags().contains(Modifier.FINAL) && field.getInitializer() != null
            && field.getType().toString().matches("(int|long|boolean|char|String)|(int|long|char|byte)\\[\\]");
    }

    @Override
    public Void visitMethod(MethodTree tree, Void none) {
        holds("11: at most seven parameters", tree, tree.getParameters().size() <= MOST_PARAMETERS);
        long first = unit.getLineMap().getLineNumber(positions.getStartPosition(unit, tree));
        long last = unit.getLineMap().getLineNumber(positions.getEndPosition(unit, tree));
        holds("11: some sixty lines", tree, last - first < MOST_LINES);
        method = tree;
        calls.putIfAbsent(tree.getName().toString(), new TreeSet<>());
        super.visitMethod(tree, none);
        method = null;
        return null;
    }

    @Override
    public Void visitVariable(VariableTree tree, Void none) {
        String type = tree.getType() == null ? "var" : tree.getType().toString();
        String element = type.replaceAll("<.*>", "").replace("[]", "");
        boolean isNumber = element.matches("int|long|short|byte|char|boolean|double|float");
        holds("3: " + type, tree, isNumber || LIBRARY_TYPES.contains(element) || ownTypes.contains(element));
        holds("3: arrays of " + type, tree, !type.endsWith("[][]") || isNumber && !type.endsWith("[][][]"));
        return super.visitVariable(tree, none);
    }

    // ---- calls, and objects that are made

    @Override
    public Void visitMethodInvocation(MethodInvocationTree tree, Void none) {
        String name;
        if (tree.getMethodSelect() instanceof MemberSelectTree) {
            MemberSelectTree select = (MemberSelectTree) tree.getMethodSelect();
            name = select.getIdentifier().toString();
            String whole = select.toString();
            boolean ofAClass = select.getExpression() instanceof IdentifierTree
                && Character.isUpperCase(select.getExpression().toString().charAt(0))
                && !ownTypes.contains(select.getExpression().toString());
            holds("4: " + whole, tree, ofAClass ? STATIC_CALLS.contains(whole)
                : ownMethods.contains(name) || OBJECT_CALLS.contains(name));
        } else {
            name = tree.getMethodSelect().toString();
            holds("4: " + name, tree, ownMethods.contains(name) || name.equals("this") || name.equals("super"));
        }
        if (method != null && ownMethods.contains(name)) {
            calls.get(method.getName().toString()).add(name);
        }
        return super.visitMethodInvocation(tree, none);
    }

    @Override
    public Void visitNewClass(NewClassTree tree, Void none) {
        String type = tree.getIdentifier().toString().replaceAll("<.*>", "");
        holds("4: new " + type, tree, EXCEPTIONS.contains(type) || LIBRARY_TYPES.contains(type) || ownTypes.contains(type));
        boolean inConstructor = method == null || method.getReturnType() == null;
        holds("12: none in a loop", tree, loops == 0 || inConstructor);
        return super.visitNewClass(tree, none);
    }

    // ---- exceptions

    @Override
    public Void visitThrow(ThrowTree tree, Void none) {
        boolean isNew = tree.getExpression() instanceof NewClassTree;
        holds("6: throw new", tree, isNew);
        if (isNew) {
            NewClassTree made = (NewClassTree) tree.getExpression();
            holds("6: one of the exceptions", tree, EXCEPTIONS.contains(made.getIdentifier().toString()));
            boolean isWritten = made.getArguments().size() == 1
                && made.getArguments().get(0).getKind() == Tree.Kind.STRING_LITERAL;
            holds("6: with a written text, or none", tree, made.getArguments().isEmpty() || isWritten);
        }
        holds("6: no throw in a constructor", tree, method != null && method.getReturnType() != null);
        return super.visitThrow(tree, none);
    }

    @Override
    public Void visitTry(TryTree tree, Void none) {
        holds("6: no try is needed", tree, false);
        return super.visitTry(tree, none);
    }

    @Override
    public Void visitAssert(AssertTree tree, Void none) {
        holds("6: no assert", tree, false);
        return super.visitAssert(tree, none);
    }

    @Override
    public Void visitSynchronized(SynchronizedTree tree, Void none) {
        holds("6: no synchronized", tree, false);
        return super.visitSynchronized(tree, none);
    }

    // ---- expressions

    @Override
    public Void visitLambdaExpression(LambdaExpressionTree tree, Void none) {
        holds("2: no lambda", tree, false);
        return super.visitLambdaExpression(tree, none);
    }

    @Override
    public Void visitMemberReference(MemberReferenceTree tree, Void none) {
        holds("2: no method reference", tree, false);
        return super.visitMemberReference(tree, none);
    }

    @Override
    public Void visitTypeCast(TypeCastTree tree, Void none) {
        holds("6: casts of numbers alone", tree, tree.getType() instanceof PrimitiveTypeTree);
        return super.visitTypeCast(tree, none);
    }

    @Override
    public Void visitInstanceOf(InstanceOfTree tree, Void none) {
        holds("6: no instanceof is needed", tree, false);
        return super.visitInstanceOf(tree, none);
    }

    @Override
    public Void visitBinary(BinaryTree tree, Void none) {
        boolean ofTexts = tree.getLeftOperand().getKind() == Tree.Kind.STRING_LITERAL
            || tree.getRightOperand().getKind() == Tree.Kind.STRING_LITERAL;
        holds("10: no joining of texts by +, no == of texts", tree, !ofTexts);
        return super.visitBinary(tree, none);
    }

    // ---- loops

    @Override
    public Void visitForLoop(ForLoopTree tree, Void none) {
        holds("9: the loop has an end", tree, tree.getCondition() != null);
        loops++;
        super.visitForLoop(tree, none);
        loops--;
        return null;
    }

    @Override
    public Void visitWhileLoop(WhileLoopTree tree, Void none) {
        holds("9: the loop has an end", tree, !tree.getCondition().toString().equals("(true)"));
        loops++;
        super.visitWhileLoop(tree, none);
        loops--;
        return null;
    }

    @Override
    public Void visitDoWhileLoop(DoWhileLoopTree tree, Void none) {
        holds("9: the loop has an end", tree, !tree.getCondition().toString().equals("(true)"));
        loops++;
        super.visitDoWhileLoop(tree, none);
        loops--;
        return null;
    }

    // ---- how deep calls go

    private void depths() {
        for (String name : calls.keySet()) {
            int deep = depth(name, 1);
            Check.same("rules 8 and 11: " + name + " goes " + deep + " deep", deep <= DEEPEST ? 1 : 0, 1);
        }
    }

    /** By the methods' names alone: a call of itself goes deeper than any that may stand. */
    private int depth(String name, int level) {
        int deepest = level;
        for (String called : calls.get(name)) {
            if (level <= DEEPEST) {
                deepest = Math.max(deepest, depth(called, level + 1));
            }
        }
        return deepest;
    }
}
