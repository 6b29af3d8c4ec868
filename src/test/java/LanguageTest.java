import com.sun.source.tree.ArrayTypeTree;
import com.sun.source.tree.ClassTree;
import com.sun.source.tree.CompilationUnitTree;
import com.sun.source.tree.DoWhileLoopTree;
import com.sun.source.tree.ExpressionTree;
import com.sun.source.tree.ForLoopTree;
import com.sun.source.tree.IdentifierTree;
import com.sun.source.tree.ImportTree;
import com.sun.source.tree.MethodInvocationTree;
import com.sun.source.tree.MethodTree;
import com.sun.source.tree.NewArrayTree;
import com.sun.source.tree.Tree;
import com.sun.source.tree.VariableTree;
import com.sun.source.tree.WhileLoopTree;
import com.sun.source.util.JavacTask;
import com.sun.source.util.SourcePositions;
import com.sun.source.util.TreeScanner;
import com.sun.source.util.Trees;
import java.io.IOException;
import java.nio.file.Path;
import java.util.HashMap;
import java.util.HashSet;
import java.util.List;
import java.util.Map;
import java.util.Set;
import java.util.TreeSet;
import javax.lang.model.element.Modifier;
import javax.tools.JavaCompiler;
import javax.tools.StandardJavaFileManager;
import javax.tools.ToolProvider;

/**
 * The rules of ../shared/LANGUAGE.md that can be read off the source of the class, as narrow as the class needs them:
 * who needs more of what a rule allows widens the list here. Run it from the root of the checkout.
 */
public final class LanguageTest {
    private static final Path SOURCE = Path.of("src", "main", "java", "PianoJury.java");
    private static final Due DUE = new Due("LanguageTest");

    /** Rules 2, 6 and 12: what the rules forbid, and what no call of this document needs (an exception, an object). */
    private static final Set<Tree.Kind> UNWANTED = Set.of(Tree.Kind.LAMBDA_EXPRESSION, Tree.Kind.MEMBER_REFERENCE,
        Tree.Kind.SYNCHRONIZED, Tree.Kind.ASSERT, Tree.Kind.THROW, Tree.Kind.TRY, Tree.Kind.NEW_CLASS,
        Tree.Kind.STRING_LITERAL, Tree.Kind.TYPE_CAST, Tree.Kind.DOUBLE_LITERAL, Tree.Kind.FLOAT_LITERAL);
    private static final Set<String> IMPORTS = Set.of("java.util.Arrays");
    private static final Set<String> LIBRARY = Set.of("Arrays.fill", "Integer.bitCount", "Integer.compare",
        "Math.max", "Math.min");
    private static final Set<String> TYPES = Set.of("int", "long", "boolean", "int[]");
    private static final int MOST_PARAMETERS = 7;
    private static final int MOST_LINES = 60;
    private static final int MOST_DEEP = 8;
    private static final int MOST_FIELDS = 20;

    private final CompilationUnitTree unit;
    private final SourcePositions positions;
    private final Map<String, MethodTree> methods = new HashMap<>();
    private final Map<String, Set<String>> calls = new HashMap<>();

    private LanguageTest(CompilationUnitTree unit, SourcePositions positions) {
        this.unit = unit;
        this.positions = positions;
    }

    public static void main(String[] args) throws IOException {
        JavaCompiler javac = ToolProvider.getSystemJavaCompiler();
        try (StandardJavaFileManager files = javac.getStandardFileManager(null, null, null)) {
            JavacTask task = (JavacTask) javac.getTask(null, files, null, List.of("-proc:none"), null,
                files.getJavaFileObjects(SOURCE));
            CompilationUnitTree unit = task.parse().iterator().next();
            new LanguageTest(unit, Trees.instance(task).getSourcePositions()).checkAll();
        }
        DUE.end();
    }

    private static void holds(String rule, boolean is) {
        DUE.is(rule, is ? 1 : 0, 1);
    }

    private void checkAll() {
        checkFile();
        ClassTree type = (ClassTree) unit.getTypeDecls().get(0);
        checkFields(type);
        for (Tree member : type.getMembers()) {
            if (member instanceof MethodTree method) {
                String name = method.getName().toString();
                holds("one method alone is called " + name, methods.put(name, method) == null);
                checkMethod(name, method);
            } else {
                holds("5: neither a static block nor a class inside", member instanceof VariableTree);
            }
        }
        checkTrees();
        checkRecursion();
        for (String name : methods.keySet()) {
            int deep = deepFrom(name, new HashSet<>());
            holds("11: " + name + " goes " + deep + " deep", deep <= MOST_DEEP);
        }
    }

    /** Rules 1 and 4. */
    private void checkFile() {
        holds("1: no package line", unit.getPackage() == null);
        DUE.is("1: classes in the file", unit.getTypeDecls().size(), 1);
        for (ImportTree line : unit.getImports()) {
            holds("4: " + line, !line.isStatic() && IMPORTS.contains(line.getQualifiedIdentifier().toString()));
        }
    }

    /** Rules 5 and 11. */
    private static void checkFields(ClassTree type) {
        int fields = 0;
        for (Tree member : type.getMembers()) {
            if (member instanceof VariableTree field) {
                Set<Modifier> flags = field.getModifiers().getFlags();
                if (flags.contains(Modifier.STATIC)) {
                    holds("5: a constant: " + field,
                        flags.contains(Modifier.FINAL) && !(field.getType() instanceof ArrayTypeTree));
                } else {
                    fields++;
                }
            }
        }
        holds("11: fields beside the constants: " + fields, fields <= MOST_FIELDS);
    }

    /** Rules 11 and 12; a row made by a call would be made as often as it is called. */
    private void checkMethod(String name, MethodTree method) {
        long lines = lineOf(positions.getEndPosition(unit, method)) - lineOf(positions.getStartPosition(unit, method));
        holds("11: lines of " + name + ": " + (lines + 1), lines < MOST_LINES);
        holds("11: parameters of " + name, method.getParameters().size() <= MOST_PARAMETERS);
        Set<String> called = new TreeSet<>();
        calls.put(name, called);
        new TreeScanner<Void, Void>() {
            @Override
            public Void visitMethodInvocation(MethodInvocationTree call, Void none) {
                if (call.getMethodSelect() instanceof IdentifierTree own) {
                    called.add(own.getName().toString());
                } else {
                    holds("4: " + call + " in " + name, LIBRARY.contains(call.getMethodSelect().toString()));
                }
                return super.visitMethodInvocation(call, none);
            }

            @Override
            public Void visitNewArray(NewArrayTree row, Void none) {
                holds("12: a row made in " + name + ": " + row, false);
                return super.visitNewArray(row, none);
            }
        }.scan(method.getBody(), null);
    }

    private long lineOf(long position) {
        return unit.getLineMap().getLineNumber(position);
    }

    /** Rules 2, 3, 6 and 9, wherever they may be broken. */
    private void checkTrees() {
        new TreeScanner<Void, Void>() {
            @Override
            public Void scan(Tree tree, Void none) {
                if (tree != null && UNWANTED.contains(tree.getKind())) {
                    holds("2, 3, 6, 12: " + tree.getKind() + ": " + tree, false);
                }
                return super.scan(tree, none);
            }

            @Override
            public Void visitVariable(VariableTree variable, Void none) {
                holds("3: " + variable, TYPES.contains(String.valueOf(variable.getType())));
                return super.visitVariable(variable, none);
            }

            @Override
            public Void visitForLoop(ForLoopTree loop, Void none) {
                holdsAnEnd(loop.getCondition());
                return super.visitForLoop(loop, none);
            }

            @Override
            public Void visitWhileLoop(WhileLoopTree loop, Void none) {
                holdsAnEnd(loop.getCondition());
                return super.visitWhileLoop(loop, none);
            }

            @Override
            public Void visitDoWhileLoop(DoWhileLoopTree loop, Void none) {
                holdsAnEnd(loop.getCondition());
                return super.visitDoWhileLoop(loop, none);
            }
        }.scan(unit, null);
    }

    /** As far as it can be read off: what is compared has to be looked at by a reader. */
    private static void holdsAnEnd(ExpressionTree condition) {
        String bound = String.valueOf(condition);
        holds("9: a loop as long as " + bound, bound.contains("<") || bound.contains(">"));
    }

    /** Rule 8: "a private static method that calls itself, private methods that call one another". */
    private void checkRecursion() {
        for (String name : methods.keySet()) {
            Set<Modifier> flags = methods.get(name).getModifiers().getFlags();
            if (calls.get(name).contains(name)) {
                holds("8: " + name + " calls itself, so it is static", flags.contains(Modifier.STATIC));
            }
            if (reaches(name, name, new HashSet<>())) {
                holds("8: " + name + " comes back to itself, so it is private", flags.contains(Modifier.PRIVATE));
            }
        }
    }

    private boolean reaches(String from, String to, Set<String> seen) {
        for (String next : calls.getOrDefault(from, Set.of())) {
            if (next.equals(to) || seen.add(next) && reaches(next, to, seen)) {
                return true;
            }
        }
        return false;
    }

    /** Rule 11: how many methods the longest chain of calls has; a recursion counts once. */
    private int deepFrom(String name, Set<String> open) {
        int deepest = 0;
        open.add(name);
        for (String next : calls.getOrDefault(name, Set.of())) {
            if (!open.contains(next)) {
                deepest = Math.max(deepest, deepFrom(next, open));
            }
        }
        open.remove(name);
        return deepest + 1;
    }
}
