import com.sun.source.tree.AssertTree;
import com.sun.source.tree.AssignmentTree;
import com.sun.source.tree.ClassTree;
import com.sun.source.tree.CompilationUnitTree;
import com.sun.source.tree.DoWhileLoopTree;
import com.sun.source.tree.EnhancedForLoopTree;
import com.sun.source.tree.ExpressionTree;
import com.sun.source.tree.ForLoopTree;
import com.sun.source.tree.IdentifierTree;
import com.sun.source.tree.InstanceOfTree;
import com.sun.source.tree.LambdaExpressionTree;
import com.sun.source.tree.LiteralTree;
import com.sun.source.tree.MemberReferenceTree;
import com.sun.source.tree.MemberSelectTree;
import com.sun.source.tree.MethodInvocationTree;
import com.sun.source.tree.MethodTree;
import com.sun.source.tree.NewArrayTree;
import com.sun.source.tree.NewClassTree;
import com.sun.source.tree.SynchronizedTree;
import com.sun.source.tree.ThrowTree;
import com.sun.source.tree.Tree;
import com.sun.source.tree.TryTree;
import com.sun.source.tree.VariableTree;
import com.sun.source.tree.WhileLoopTree;
import com.sun.source.util.JavacTask;
import com.sun.source.util.SourcePositions;
import com.sun.source.util.TreeScanner;
import com.sun.source.util.Trees;
import java.io.File;
import java.io.IOException;
import java.util.HashMap;
import java.util.List;
import java.util.Map;
import java.util.Set;
import java.util.TreeSet;
import javax.lang.model.element.Modifier;
import javax.tools.JavaCompiler;
import javax.tools.StandardJavaFileManager;
import javax.tools.ToolProvider;

/** The rules of LANGUAGE.md that can be told from the text of the program. */
public final class LanguageTest {
    private static final String SOURCE = "src/main/java/TypedTerms.java";
    private static final Set<String> FACE = new TreeSet<>(List.of("<init>", "leaf", "one", "two",
            "three", "drop", "clear", "depth", "type", "untype", "typeSize", "symbol", "variables",
            "fits", "meets", "typed", "items", "kind", "number", "steps"));
    private static final Set<String> CONSTANTS = new TreeSet<>(List.of("BAD_ARG", "FULL", "TOO_FEW",
            "NONE", "ILL", "LONG", "TIRED"));
    private static final Set<String> TYPES = Set.of("int", "long", "short", "byte", "char", "boolean",
            "int[]", "long[]", "short[]", "byte[]", "char[]", "boolean[]", "void");
    private static final int MAX_LINES = 60;
    private static final int MAX_CALL_DEPTH = 6;
    private static final int MAX_FIELDS = 40;
    private static final int MAX_PARAMETERS = 7;

    private static final Map<String, MethodTree> METHODS = new HashMap<>();
    private static final Map<String, VariableTree> FIELDS = new HashMap<>();

    private LanguageTest() {
    }

    public static void main(String[] args) throws IOException {
        JavaCompiler compiler = ToolProvider.getSystemJavaCompiler();
        StandardJavaFileManager files = compiler.getStandardFileManager(null, null, null);
        JavacTask task = (JavacTask) compiler.getTask(null, files, null, List.of(), null,
                files.getJavaFileObjects(new File(SOURCE)));
        CompilationUnitTree unit = task.parse().iterator().next();
        Check.sentence("rule 1: one class");
        Check.due("classes", unit.getTypeDecls().size(), 1);
        Check.due("package", unit.getPackageName() == null, true);
        Check.due("imports", unit.getImports().size(), 0);
        ClassTree program = (ClassTree) unit.getTypeDecls().get(0);
        members(program);
        fields();
        words(program);
        methods(unit, Trees.instance(task).getSourcePositions());
        Check.end();
    }

    private static void members(ClassTree program) {
        Check.sentence("rule 1: the members of the document and private ones");
        Check.due("class", program.getModifiers().getFlags().toString(), "[public, final]");
        Set<String> seen = new TreeSet<>();
        for (Tree member : program.getMembers()) {
            if (member instanceof MethodTree method) {
                String name = method.getName().toString();
                Check.due("one method " + name, METHODS.put(name, method) == null, true);
                Set<Modifier> flags = method.getModifiers().getFlags();
                Check.due("public " + name, flags.contains(Modifier.PUBLIC), FACE.contains(name));
                Check.due("private " + name, flags.contains(Modifier.PRIVATE), !FACE.contains(name));
                seen.add(name);
            } else if (member instanceof VariableTree field) {
                FIELDS.put(field.getName().toString(), field);
            } else {
                Check.due("a member that is neither", member.getKind().toString(), "none");
            }
        }
        Check.due("all methods", seen.containsAll(FACE), true);
    }

    private static void fields() {
        Check.sentence("rules 4, 5 and 10: fields");
        int held = 0;
        Set<String> open = new TreeSet<>();
        for (String name : FIELDS.keySet()) {
            VariableTree field = FIELDS.get(name);
            Set<Modifier> flags = field.getModifiers().getFlags();
            if (!flags.contains(Modifier.PRIVATE)) {
                open.add(name);
            }
            if (flags.contains(Modifier.STATIC)) {
                Check.due("constant " + name, flags.contains(Modifier.FINAL), true);
                Check.due("type of " + name, field.getType().toString(), "int");
            } else {
                held++;
                Check.due("array " + name, isArray(field),
                        field.getInitializer() instanceof NewArrayTree);
            }
        }
        Check.due("public constants", open.toString(), CONSTANTS.toString());
        Check.due(held + " fields", held <= MAX_FIELDS, true);
    }

    private static boolean isArray(VariableTree variable) {
        return variable.getType().toString().endsWith("[]");
    }

    /** What may not stand anywhere in the program. */
    private static void words(ClassTree program) {
        Check.sentence("rules 2 to 6: what may not stand in the program");
        new TreeScanner<Void, Void>() {
            private void none(String what, Tree at) {
                Check.due(what + " in " + at, false, true);
            }

            @Override
            public Void visitVariable(VariableTree tree, Void p) {
                Check.due("type of " + tree, TYPES.contains(tree.getType().toString()), true);
                return super.visitVariable(tree, p);
            }

            @Override
            public Void visitNewArray(NewArrayTree tree, Void p) {
                String length = tree.getDimensions().get(0).toString();
                Check.due("constant length " + length, tree.getDimensions().size() == 1
                        && tree.getInitializers() == null && FIELDS.containsKey(length)
                        && Integer.parseInt("" + FIELDS.get(length).getInitializer()) >= 1, true);
                return super.visitNewArray(tree, p);
            }

            @Override
            public Void visitAssignment(AssignmentTree tree, Void p) {
                VariableTree field = FIELDS.get(tree.getVariable().toString());
                Check.due("assigned " + tree, field != null && isArray(field), false);
                return super.visitAssignment(tree, p);
            }

            @Override
            public Void visitLiteral(LiteralTree tree, Void p) {
                switch (tree.getKind()) {
                    case STRING_LITERAL, NULL_LITERAL, FLOAT_LITERAL, DOUBLE_LITERAL ->
                            none("a literal", tree);
                    default -> {
                    }
                }
                return null;
            }

            @Override
            public Void visitMemberSelect(MemberSelectTree tree, Void p) {
                none("a member of something", tree);
                return null;
            }

            @Override
            public Void visitNewClass(NewClassTree tree, Void p) {
                none("an object", tree);
                return null;
            }

            @Override
            public Void visitThrow(ThrowTree tree, Void p) {
                none("throw", tree);
                return null;
            }

            @Override
            public Void visitTry(TryTree tree, Void p) {
                none("try", tree);
                return null;
            }

            @Override
            public Void visitSynchronized(SynchronizedTree tree, Void p) {
                none("synchronized", tree);
                return null;
            }

            @Override
            public Void visitAssert(AssertTree tree, Void p) {
                none("assert", tree);
                return null;
            }

            @Override
            public Void visitInstanceOf(InstanceOfTree tree, Void p) {
                none("instanceof", tree);
                return null;
            }

            @Override
            public Void visitLambdaExpression(LambdaExpressionTree tree, Void p) {
                none("a lambda", tree);
                return null;
            }

            @Override
            public Void visitMemberReference(MemberReferenceTree tree, Void p) {
                none("a method reference", tree);
                return null;
            }

            @Override
            public Void visitEnhancedForLoop(EnhancedForLoopTree tree, Void p) {
                none("a loop over an array", tree);
                return null;
            }

            @Override
            public Void visitWhileLoop(WhileLoopTree tree, Void p) {
                none("a loop without a counter", tree);
                return null;
            }

            @Override
            public Void visitDoWhileLoop(DoWhileLoopTree tree, Void p) {
                none("a loop without a counter", tree);
                return null;
            }

            @Override
            public Void visitForLoop(ForLoopTree tree, Void p) {
                Check.due("bound of " + tree.getCondition(), isBounded(tree), true);
                return super.visitForLoop(tree, p);
            }
        }.scan(program, null);
    }

    /** Whether the loop counts a variable by one that its condition compares with something. */
    private static boolean isBounded(ForLoopTree loop) {
        if (loop.getCondition() == null || loop.getUpdate().size() != 1) {
            return false;
        }
        String update = loop.getUpdate().get(0).toString();
        String counter = update.substring(0, update.length() - 3);
        String compared = "(^|.*\\W)" + counter + (update.endsWith("++;") ? " <=? " : " >=? ") + "\\w.*";
        return loop.getCondition().toString().matches(compared);
    }

    private static void methods(CompilationUnitTree unit, SourcePositions positions) {
        Check.sentence("rules 8 and 10: methods");
        for (String name : METHODS.keySet()) {
            MethodTree method = METHODS.get(name);
            long first = unit.getLineMap().getLineNumber(positions.getStartPosition(unit, method));
            long last = unit.getLineMap().getLineNumber(positions.getEndPosition(unit, method));
            Check.due("lines of " + name, last - first < MAX_LINES, true);
            Check.due("parameters of " + name, method.getParameters().size() <= MAX_PARAMETERS, true);
            if (method.getReturnType() != null) {
                String type = method.getReturnType().toString();
                Check.due("answer of " + name, TYPES.contains(type) && !type.endsWith("[]"), true);
            }
            // A method that calls itself would go deeper without an end.
            Check.due("calls of " + name, depth(name, MAX_CALL_DEPTH + 1) <= MAX_CALL_DEPTH, true);
        }
    }

    /** How deep calls go from a method, itself counted, as far as there is a limit left. */
    private static int depth(String name, int limit) {
        Check.due("a method of the class: " + name, METHODS.containsKey(name), true);
        if (limit == 0) {
            return 0;
        }
        int deepest = 0;
        for (String called : called(METHODS.get(name))) {
            deepest = Math.max(deepest, depth(called, limit - 1));
        }
        return deepest + 1;
    }

    /** The methods that a method calls; it makes no array, and hands no call to another. */
    private static Set<String> called(MethodTree method) {
        Set<String> found = new TreeSet<>();
        new TreeScanner<Void, Boolean>() {
            @Override
            public Void visitNewArray(NewArrayTree tree, Boolean inside) {
                Check.due("an array made in " + method.getName(), false, true);
                return null;
            }

            @Override
            public Void visitMethodInvocation(MethodInvocationTree tree, Boolean inside) {
                Check.due("a call inside the arguments of a call: " + tree, inside, false);
                Check.due("a call by name: " + tree,
                        tree.getMethodSelect() instanceof IdentifierTree, true);
                String name = tree.getMethodSelect().toString();
                if (!name.equals("super")) {
                    found.add(name);
                }
                for (ExpressionTree argument : tree.getArguments()) {
                    scan(argument, true);
                }
                return null;
            }
        }.scan(method.getBody(), false);
        return found;
    }
}
