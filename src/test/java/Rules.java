import com.sun.source.tree.ArrayTypeTree;
import com.sun.source.tree.AssertTree;
import com.sun.source.tree.BinaryTree;
import com.sun.source.tree.BlockTree;
import com.sun.source.tree.ClassTree;
import com.sun.source.tree.CompilationUnitTree;
import com.sun.source.tree.DoWhileLoopTree;
import com.sun.source.tree.ExpressionTree;
import com.sun.source.tree.ForLoopTree;
import com.sun.source.tree.IdentifierTree;
import com.sun.source.tree.ImportTree;
import com.sun.source.tree.LambdaExpressionTree;
import com.sun.source.tree.MemberReferenceTree;
import com.sun.source.tree.MemberSelectTree;
import com.sun.source.tree.MethodInvocationTree;
import com.sun.source.tree.MethodTree;
import com.sun.source.tree.NewArrayTree;
import com.sun.source.tree.NewClassTree;
import com.sun.source.tree.ParenthesizedTree;
import com.sun.source.tree.SynchronizedTree;
import com.sun.source.tree.ThrowTree;
import com.sun.source.tree.Tree;
import com.sun.source.tree.TryTree;
import com.sun.source.tree.VariableTree;
import com.sun.source.tree.WhileLoopTree;
import com.sun.source.util.JavacTask;
import com.sun.source.util.SourcePositions;
import com.sun.source.util.TreeScanner;
import com.sun.source.util.Trees;
import java.io.IOException;
import java.net.URI;
import java.util.ArrayList;
import java.util.List;
import java.util.Map;
import java.util.Set;
import java.util.TreeMap;
import java.util.TreeSet;
import javax.lang.model.element.Modifier;
import javax.tools.JavaFileObject;
import javax.tools.SimpleJavaFileObject;
import javax.tools.ToolProvider;

/** The rules of LANGUAGE.md that can be seen in a source's tree; what breaks one is told with its number. */
final class Rules extends TreeScanner<Void, Void> {
    private static final Set<String> IMPORTS = Set.of("java.util.Arrays", "java.util.ArrayList", "java.util.List",
        "java.util.Iterator");
    private static final Set<String> LIBRARY_TYPES = Set.of("String", "StringBuilder", "Integer", "ArrayList", "List",
        "Iterator", "Iterable", "Comparable");
    private static final Set<String> MADE_TYPES = Set.of("String", "StringBuilder", "ArrayList");
    private static final Set<String> ARRAYS = Set.of("copyOf", "copyOfRange", "fill");
    private static final Set<String> NUMBERS = Set.of("compare", "max", "min", "abs", "bitCount", "floorDiv",
        "floorMod", "signum", "sum");
    private static final Set<String> CONSTANTS = Set.of("int", "long", "boolean", "char", "String", "int[]", "long[]",
        "char[]", "byte[]");
    private static final Set<String> UNNAMED = Set.of("equals", "hashCode", "toString");

    private final List<String> broken = new ArrayList<>();
    private final Set<String> own = new TreeSet<>();
    private final Map<String, Set<String>> calls = new TreeMap<>();
    private final Set<String> makers = new TreeSet<>();
    private CompilationUnitTree unit;
    private SourcePositions positions;
    private String method = "";
    private int classes = 0;
    private int nesting = 0;

    private Rules() {
    }

    static Rules of(String source) throws IOException {
        JavaFileObject file = new SimpleJavaFileObject(URI.create("string:///WindBoxes.java"),
                JavaFileObject.Kind.SOURCE) {
            @Override
            public CharSequence getCharContent(boolean ignoreErrors) {
                return source;
            }
        };
        JavacTask task = (JavacTask) ToolProvider.getSystemJavaCompiler().getTask(null, null, null,
            List.of("-proc:none"), null, List.of(file));
        Rules rules = new Rules();
        rules.positions = Trees.instance(task).getSourcePositions();
        for (CompilationUnitTree tree : task.parse()) {
            rules.read(tree);
        }
        return rules;
    }

    List<String> broken() {
        return broken;
    }

    /** Methods, other than constructors, that make an object or an array. */
    Set<String> makers() {
        return makers;
    }

    private void read(CompilationUnitTree tree) {
        unit = tree;
        tell(tree.getPackageName() != null, "0: a package line");
        tell(tree.getTypeDecls().size() != 1, "0: not one class");
        new TreeScanner<Void, Void>() {
            @Override
            public Void visitClass(ClassTree node, Void none) {
                own.add(node.getSimpleName().toString());
                return super.visitClass(node, none);
            }

            @Override
            public Void visitMethod(MethodTree node, Void none) {
                calls.put(node.getName().toString(), new TreeSet<>());
                return super.visitMethod(node, none);
            }
        }.scan(tree, null);
        scan(tree, null);
        tell(classes > 12, "11: more than twelve classes");
        for (String name : calls.keySet()) {
            tell(depth(name, 0) > 8, "8, 11: calls from " + name + " come back to it or go too deep");
        }
    }

    private void tell(boolean is, String what) {
        if (is) {
            broken.add(what);
        }
    }

    private int depth(String name, int above) {
        int most = above + 1;
        if (most <= 8) {
            for (String called : calls.get(name)) {
                most = Math.max(most, depth(called, above + 1));
            }
        }
        return most;
    }

    private boolean isLibrary(ExpressionTree tree) {
        String name = tree.toString();
        return tree instanceof IdentifierTree && !own.contains(name) && Character.isUpperCase(name.charAt(0))
            && !name.equals(name.toUpperCase());
    }

    private static boolean isStaticFunction(String of, String name) {
        switch (of) {
            case "System":
                return name.equals("arraycopy");
            case "Arrays":
                return ARRAYS.contains(name);
            case "List":
                return name.equals("of");
            case "Math":
            case "Integer":
            case "Long":
                return NUMBERS.contains(name);
            default:
                return false;
        }
    }

    private void type(Tree tree) {
        if (tree instanceof ArrayTypeTree) {
            Tree of = ((ArrayTypeTree) tree).getType();
            boolean two = of instanceof ArrayTypeTree;
            Tree last = two ? ((ArrayTypeTree) of).getType() : of;
            tell(last instanceof ArrayTypeTree, "3: three dimensions: " + tree);
            tell(two && !(last.getKind() == Tree.Kind.PRIMITIVE_TYPE), "3: two dimensions, not of numbers: " + tree);
            type(last);
        } else if (tree instanceof IdentifierTree) {
            String name = tree.toString();
            tell(!own.contains(name) && !LIBRARY_TYPES.contains(name), "3: the type " + name);
        }
    }

    private void field(VariableTree node) {
        Set<Modifier> words = node.getModifiers().getFlags();
        if (words.contains(Modifier.STATIC)) {
            tell(!words.contains(Modifier.FINAL), "5: not final: " + node.getName());
            tell(!CONSTANTS.contains(node.getType().toString()), "5: a constant of another type: " + node.getName());
            boolean row = node.getType() instanceof ArrayTypeTree;
            tell(row && !(node.getInitializer() instanceof NewArrayTree), "5: not written out: " + node.getName());
        }
    }

    private void inside(ClassTree node) {
        Set<Modifier> words = node.getModifiers().getFlags();
        boolean plain = node.getKind() == Tree.Kind.CLASS;
        tell(plain && !words.contains(Modifier.STATIC), "2: not static: " + node.getSimpleName());
        tell(words.contains(Modifier.PUBLIC) || words.contains(Modifier.PROTECTED),
            "1: can be seen: " + node.getSimpleName());
    }

    @Override
    public Void visitClass(ClassTree node, Void none) {
        classes++;
        if (nesting > 0) {
            inside(node);
        }
        int fields = 0;
        for (Tree member : node.getMembers()) {
            tell(member instanceof BlockTree && ((BlockTree) member).isStatic(), "5: a static block");
            if (member instanceof VariableTree) {
                field((VariableTree) member);
                fields += ((VariableTree) member).getModifiers().getFlags().contains(Modifier.STATIC) ? 0 : 1;
            }
        }
        tell(fields > 20, "11: more than twenty fields: " + node.getSimpleName());
        nesting++;
        super.visitClass(node, none);
        nesting--;
        return none;
    }

    private long lineOf(long position) {
        return unit.getLineMap().getLineNumber(position);
    }

    @Override
    public Void visitMethod(MethodTree node, Void none) {
        method = node.getName().toString();
        tell(node.getParameters().size() > 7, "11: more than seven parameters: " + method);
        long lines = lineOf(positions.getEndPosition(unit, node)) - lineOf(positions.getStartPosition(unit, node)) + 1;
        tell(lines > 60, "11: more than sixty lines: " + method);
        tell(!node.getThrows().isEmpty(), "6: throws: " + method);
        tell(UNNAMED.contains(method), "6: " + method);
        type(node.getReturnType());
        super.visitMethod(node, none);
        method = "";
        return none;
    }

    @Override
    public Void visitVariable(VariableTree node, Void none) {
        type(node.getType());
        return super.visitVariable(node, none);
    }

    @Override
    public Void visitBlock(BlockTree node, Void none) {
        for (Tree statement : node.getStatements()) {
            tell(statement instanceof ClassTree, "2: a class inside a method");
        }
        return super.visitBlock(node, none);
    }

    @Override
    public Void visitImport(ImportTree node, Void none) {
        tell(!IMPORTS.contains(node.getQualifiedIdentifier().toString()), "4: " + node);
        return none;
    }

    @Override
    public Void visitMethodInvocation(MethodInvocationTree node, Void none) {
        ExpressionTree select = node.getMethodSelect();
        scan(node.getArguments(), none);
        String name = select.toString();
        if (select instanceof MemberSelectTree) {
            ExpressionTree of = ((MemberSelectTree) select).getExpression();
            name = ((MemberSelectTree) select).getIdentifier().toString();
            if (isLibrary(of)) {
                tell(!isStaticFunction(of.toString(), name), "4: " + select);
                return none;
            }
            scan(of, none);
        }
        tell(UNNAMED.contains(name) && !name.equals("toString"), "6: a call of " + name);
        if (calls.containsKey(name) && !method.isEmpty()) {
            calls.get(method).add(name);
        }
        return none;
    }

    @Override
    public Void visitMemberSelect(MemberSelectTree node, Void none) {
        tell(isLibrary(node.getExpression()), "4: " + node);
        return super.visitMemberSelect(node, none);
    }

    @Override
    public Void visitIdentifier(IdentifierTree node, Void none) {
        String name = node.getName().toString();
        tell(name.equals("java") || name.equals("javax"), "4: a class by its whole name");
        return none;
    }

    private void maker() {
        if (!method.isEmpty() && !method.equals("<init>")) {
            makers.add(method);
        }
    }

    @Override
    public Void visitNewClass(NewClassTree node, Void none) {
        String name = node.getIdentifier().toString().replaceAll("<.*", "");
        tell(node.getClassBody() != null, "2: a class without a name");
        tell(!own.contains(name) && !MADE_TYPES.contains(name), "4: new " + name);
        maker();
        return super.visitNewClass(node, none);
    }

    @Override
    public Void visitNewArray(NewArrayTree node, Void none) {
        maker();
        return super.visitNewArray(node, none);
    }

    private void ends(ExpressionTree condition) {
        ExpressionTree inner = condition;
        while (inner instanceof ParenthesizedTree) {
            inner = ((ParenthesizedTree) inner).getExpression();
        }
        tell(inner == null || inner.toString().equals("true"), "9: a loop without an end in " + method);
    }

    @Override
    public Void visitForLoop(ForLoopTree node, Void none) {
        ends(node.getCondition());
        return super.visitForLoop(node, none);
    }

    @Override
    public Void visitWhileLoop(WhileLoopTree node, Void none) {
        ends(node.getCondition());
        return super.visitWhileLoop(node, none);
    }

    @Override
    public Void visitDoWhileLoop(DoWhileLoopTree node, Void none) {
        ends(node.getCondition());
        return super.visitDoWhileLoop(node, none);
    }

    @Override
    public Void visitBinary(BinaryTree node, Void none) {
        boolean text = node.getLeftOperand().getKind() == Tree.Kind.STRING_LITERAL
            || node.getRightOperand().getKind() == Tree.Kind.STRING_LITERAL;
        tell(text, "6, 10: texts joined or compared by a sign: " + node);
        return super.visitBinary(node, none);
    }

    @Override
    public Void visitLambdaExpression(LambdaExpressionTree node, Void none) {
        tell(true, "2: a lambda");
        return none;
    }

    @Override
    public Void visitMemberReference(MemberReferenceTree node, Void none) {
        tell(true, "2: a method reference");
        return none;
    }

    @Override
    public Void visitThrow(ThrowTree node, Void none) {
        tell(true, "6: throw");
        return none;
    }

    @Override
    public Void visitTry(TryTree node, Void none) {
        tell(true, "6: try");
        return none;
    }

    @Override
    public Void visitSynchronized(SynchronizedTree node, Void none) {
        tell(true, "6: synchronized");
        return none;
    }

    @Override
    public Void visitAssert(AssertTree node, Void none) {
        tell(true, "6: assert");
        return none;
    }
}
