import com.sun.source.tree.ArrayAccessTree;
import com.sun.source.tree.AssertTree;
import com.sun.source.tree.BinaryTree;
import com.sun.source.tree.BlockTree;
import com.sun.source.tree.ClassTree;
import com.sun.source.tree.CompilationUnitTree;
import com.sun.source.tree.DoWhileLoopTree;
import com.sun.source.tree.ExpressionTree;
import com.sun.source.tree.ForLoopTree;
import com.sun.source.tree.IdentifierTree;
import com.sun.source.tree.ImportTree;
import com.sun.source.tree.LambdaExpressionTree;
import com.sun.source.tree.LiteralTree;
import com.sun.source.tree.MemberReferenceTree;
import com.sun.source.tree.MemberSelectTree;
import com.sun.source.tree.MethodInvocationTree;
import com.sun.source.tree.MethodTree;
import com.sun.source.tree.NewArrayTree;
import com.sun.source.tree.NewClassTree;
import com.sun.source.tree.SynchronizedTree;
import com.sun.source.tree.ThrowTree;
import com.sun.source.tree.Tree;
import com.sun.source.tree.TryTree;
import com.sun.source.tree.VariableTree;
import com.sun.source.tree.WhileLoopTree;
import com.sun.source.util.JavacTask;
import com.sun.source.util.TreePathScanner;
import com.sun.source.util.TreeScanner;
import com.sun.source.util.Trees;
import java.io.File;
import java.io.IOException;
import java.util.HashMap;
import java.util.HashSet;
import java.util.List;
import java.util.Map;
import java.util.Set;
import java.util.TreeMap;
import java.util.TreeSet;
import javax.lang.model.element.Element;
import javax.lang.model.element.ExecutableElement;
import javax.lang.model.element.Modifier;
import javax.tools.JavaCompiler;
import javax.tools.StandardJavaFileManager;
import javax.tools.ToolProvider;

/** The rules of LANGUAGE.md that can be seen in the program's lines; each method here has the numbers of its rules. */
public final class LanguageTest {
    private static final Check CHECK = new Check("LanguageTest");
    private static final String PROGRAM = "src/main/java/ShortTeller.java";
    private static final Set<String> LIBRARY = Set.of("Math.max", "Math.min", "Integer.bitCount", "Object.<init>",
            "IndexOutOfBoundsException.<init>", "NoSuchElementException.<init>");
    private static final Set<String> GUARDS = Set.of("isMark", "isPiece", "isPlace", "has", "facts.has");
    private static final int MOST_PARAMETERS = 7;
    private static final int MOST_LINES = 60;
    private static final int MOST_DEPTH = 8;
    private static final int MOST_CLASSES = 12;
    private static final int MOST_FIELDS = 20;

    public static void main(String[] args) throws IOException {
        JavaCompiler compiler = ToolProvider.getSystemJavaCompiler();
        StandardJavaFileManager files = compiler.getStandardFileManager(null, null, null);
        JavacTask task = (JavacTask) compiler.getTask(null, files, null, List.of("-proc:none"), null,
                files.getJavaFileObjects(new File(PROGRAM)));
        CompilationUnitTree unit = task.parse().iterator().next();
        task.analyze();
        Program program = new Program(Trees.instance(task), unit);
        program.scan(unit, null);
        one(unit, program);
        CHECK.due("rule 3, types", "[]", program.foreignTypes.toString());
        CHECK.due("rule 4, calls of the library", "[]", program.foreignCalls.toString());
        CHECK.due("rule 5, static state", "[]", program.staticState.toString());
        CHECK.due("rules 2, 6 and 10, what is not written", "[]", program.notWritten.toString());
        CHECK.due("rule 7, an index that is not looked at", "[]", program.blindIndexes.toString());
        CHECK.due("rules 9 and 12, loops", "[]", program.loops.toString());
        CHECK.due("rule 11, what is too large", "[]", program.tooLarge.toString());
        CHECK.due("rule 11, classes", true, program.classes <= MOST_CLASSES);
        deep(program);
        CHECK.end();
    }

    /** Rule 1: one file without a package line, one public class, those inside it static and not public. */
    private static void one(CompilationUnitTree unit, Program program) {
        CHECK.due("rule 1, no package line", true, unit.getPackageName() == null);
        CHECK.due("rule 1, classes of the file", 1, unit.getTypeDecls().size());
        for (ImportTree line : unit.getImports()) {
            CHECK.due("rule 4, imports", "java.util.NoSuchElementException", line.getQualifiedIdentifier().toString());
        }
        CHECK.due("rules 1 and 2, classes inside", "[]", program.wrongClasses.toString());
    }

    /** Rules 8 and 11: no method calls itself over any way, and calls go eight deep. */
    private static void deep(Program program) {
        Map<String, Integer> depths = new HashMap<>();
        for (String method : program.calls.keySet()) {
            int depth = depthOf(method, program.calls, depths, new HashSet<>());
            CHECK.due("rules 8 and 11, calls of " + method + " go " + depth + " deep", true, depth <= MOST_DEPTH);
        }
    }

    private static int depthOf(String method, Map<String, Set<String>> calls, Map<String, Integer> depths,
            Set<String> open) {
        if (depths.containsKey(method)) {
            return depths.get(method);
        }
        if (!open.add(method)) {
            return 1000;
        }
        int below = 0;
        for (String called : calls.getOrDefault(method, Set.of())) {
            below = Math.max(below, depthOf(called, calls, depths, open));
        }
        open.remove(method);
        depths.put(method, below + 1);
        return below + 1;
    }

    /** Walks over the program and gathers what the rules do not leave. */
    private static final class Program extends TreePathScanner<Void, Void> {
        private final Trees trees;
        private final CompilationUnitTree unit;
        final Set<String> wrongClasses = new TreeSet<>();
        final Set<String> foreignTypes = new TreeSet<>();
        final Set<String> foreignCalls = new TreeSet<>();
        final Set<String> staticState = new TreeSet<>();
        final Set<String> notWritten = new TreeSet<>();
        final Set<String> blindIndexes = new TreeSet<>();
        final Set<String> loops = new TreeSet<>();
        final Set<String> tooLarge = new TreeSet<>();
        final Map<String, Set<String>> calls = new TreeMap<>();
        private final Set<String> own = new HashSet<>();
        int classes = 0;
        private MethodTree method = null;
        private String methodName = "";
        private Set<String> compared = Set.of();
        private int openLoops = 0;

        Program(Trees itsTrees, CompilationUnitTree itsUnit) {
            trees = itsTrees;
            unit = itsUnit;
            for (Tree type : unit.getTypeDecls()) {
                for (Tree member : ((ClassTree) type).getMembers()) {
                    if (member instanceof ClassTree) {
                        own.add(((ClassTree) member).getSimpleName().toString());
                    }
                }
            }
        }

        private String at(Tree tree) {
            long from = trees.getSourcePositions().getStartPosition(unit, tree);
            return unit.getLineMap().getLineNumber(from) + ": " + tree.toString().split("\n")[0];
        }

        @Override
        public Void visitClass(ClassTree node, Void p) {
            classes++;
            boolean isOuter = getCurrentPath().getParentPath().getLeaf() == unit;
            Set<Modifier> flags = node.getModifiers().getFlags();
            boolean isHidden = !flags.contains(Modifier.PUBLIC) && !flags.contains(Modifier.PROTECTED);
            if (!isOuter && (!isHidden || !flags.contains(Modifier.STATIC) || method != null)) {
                wrongClasses.add(node.getSimpleName().toString());
            }
            int fields = 0;
            for (Tree member : node.getMembers()) {
                if (member instanceof VariableTree
                        && !((VariableTree) member).getModifiers().getFlags().contains(Modifier.STATIC)) {
                    fields++;
                }
                if (member instanceof BlockTree) {
                    staticState.add(at(member));
                }
            }
            if (fields > MOST_FIELDS) {
                tooLarge.add(node.getSimpleName() + " has " + fields + " fields");
            }
            return super.visitClass(node, p);
        }

        @Override
        public Void visitMethod(MethodTree node, Void p) {
            method = node;
            methodName = nameOf(trees.getElement(getCurrentPath()));
            compared = comparedIn(node);
            calls.computeIfAbsent(methodName, key -> new TreeSet<>());
            if (node.getParameters().size() > MOST_PARAMETERS) {
                tooLarge.add(methodName + " has too many parameters");
            }
            if (linesOf(node) > MOST_LINES) {
                tooLarge.add(methodName + " has too many lines");
            }
            if (node.getReturnType() != null) {
                checkType(node.getReturnType());
            }
            super.visitMethod(node, p);
            method = null;
            return null;
        }

        private long linesOf(Tree tree) {
            long from = trees.getSourcePositions().getStartPosition(unit, tree);
            long to = trees.getSourcePositions().getEndPosition(unit, tree);
            // What the compiler adds of itself has no end.
            return to < 0 ? 0 : unit.getLineMap().getLineNumber(to) - unit.getLineMap().getLineNumber(from) + 1;
        }

        private void checkType(Tree type) {
            String name = type.toString();
            String element = name.endsWith("[]") ? name.substring(0, name.length() - 2) : name;
            if (!Set.of("int", "char", "boolean", "void").contains(element) && !own.contains(element)) {
                foreignTypes.add(at(type));
            }
        }

        @Override
        public Void visitVariable(VariableTree node, Void p) {
            checkType(node.getType());
            Set<Modifier> flags = node.getModifiers().getFlags();
            if (flags.contains(Modifier.STATIC)
                    && (!flags.contains(Modifier.FINAL) || !node.getType().toString().equals("int"))) {
                staticState.add(at(node));
            }
            return super.visitVariable(node, p);
        }

        private static String nameOf(Element element) {
            return element.getEnclosingElement().getSimpleName() + "." + element.getSimpleName();
        }

        private void call(Element called) {
            String name = nameOf(called);
            String owner = called.getEnclosingElement().getSimpleName().toString();
            boolean isOwn = owner.equals("ShortTeller") || own.contains(owner);
            if (isOwn && !methodName.isEmpty()) {
                calls.get(methodName).add(name);
            } else if (!isOwn && !LIBRARY.contains(name)) {
                foreignCalls.add(name);
            }
        }

        @Override
        public Void visitMethodInvocation(MethodInvocationTree node, Void p) {
            call((ExecutableElement) trees.getElement(getCurrentPath()));
            return super.visitMethodInvocation(node, p);
        }

        @Override
        public Void visitNewClass(NewClassTree node, Void p) {
            call((ExecutableElement) trees.getElement(getCurrentPath()));
            if (node.getClassBody() != null) {
                notWritten.add(at(node));
            }
            checkMadeInLoop(node);
            return super.visitNewClass(node, p);
        }

        @Override
        public Void visitNewArray(NewArrayTree node, Void p) {
            checkMadeInLoop(node);
            return super.visitNewArray(node, p);
        }

        /** Rule 12: here only constructors make objects in a loop. */
        private void checkMadeInLoop(Tree node) {
            if (openLoops > 0 && !methodName.endsWith(".<init>")) {
                loops.add(at(node));
            }
        }

        /** The names that stand in a comparison of a method, or are handed to one that asks whether there is such. */
        private static Set<String> comparedIn(MethodTree node) {
            Set<String> names = new HashSet<>();
            new TreeScanner<Void, Void>() {
                @Override
                public Void visitBinary(BinaryTree binary, Void p) {
                    switch (binary.getKind()) {
                        case LESS_THAN:
                        case LESS_THAN_EQUAL:
                        case GREATER_THAN:
                        case GREATER_THAN_EQUAL:
                        case EQUAL_TO:
                        case NOT_EQUAL_TO:
                            names.addAll(namesIn(binary));
                            break;
                        default:
                            break;
                    }
                    return super.visitBinary(binary, p);
                }

                @Override
                public Void visitMethodInvocation(MethodInvocationTree call, Void p) {
                    if (GUARDS.contains(call.getMethodSelect().toString())) {
                        names.addAll(namesIn(call.getArguments().get(0)));
                    }
                    return super.visitMethodInvocation(call, p);
                }
            }.scan(node, null);
            return names;
        }

        /** The names of what an expression is made of, but not of what stands in a row's index or goes to a call. */
        private static Set<String> namesIn(Tree tree) {
            Set<String> names = new HashSet<>();
            new TreeScanner<Void, Void>() {
                @Override
                public Void visitIdentifier(IdentifierTree identifier, Void p) {
                    names.add(identifier.getName().toString());
                    return null;
                }

                @Override
                public Void visitMemberSelect(MemberSelectTree select, Void p) {
                    names.add(select.toString());
                    return null;
                }

                @Override
                public Void visitArrayAccess(ArrayAccessTree access, Void p) {
                    return null;
                }

                @Override
                public Void visitMethodInvocation(MethodInvocationTree call, Void p) {
                    return null;
                }
            }.scan(tree, null);
            return names;
        }

        /** Rule 7: what an index is made of is compared in the same method, and is no answer of a call or a row. */
        @Override
        public Void visitArrayAccess(ArrayAccessTree node, Void p) {
            ExpressionTree index = node.getIndex();
            boolean[] isPlain = {true};
            new TreeScanner<Void, Void>() {
                @Override
                public Void visitMethodInvocation(MethodInvocationTree inner, Void q) {
                    isPlain[0] = false;
                    return null;
                }

                @Override
                public Void visitArrayAccess(ArrayAccessTree inner, Void q) {
                    isPlain[0] = false;
                    return null;
                }
            }.scan(index, null);
            boolean isConstant = index instanceof LiteralTree;
            if (!isConstant && (!isPlain[0] || !compared.containsAll(namesIn(index)))) {
                blindIndexes.add(at(node));
            }
            return super.visitArrayAccess(node, p);
        }

        @Override
        public Void visitBinary(BinaryTree node, Void p) {
            boolean divides = node.getKind() == Tree.Kind.DIVIDE || node.getKind() == Tree.Kind.REMAINDER;
            if (divides && !(node.getRightOperand() instanceof LiteralTree)) {
                blindIndexes.add(at(node));
            }
            return super.visitBinary(node, p);
        }

        @Override
        public Void visitForLoop(ForLoopTree node, Void p) {
            if (node.getCondition() == null) {
                loops.add(at(node));
            }
            openLoops++;
            super.visitForLoop(node, p);
            openLoops--;
            return null;
        }

        @Override
        public Void visitWhileLoop(WhileLoopTree node, Void p) {
            if (node.getCondition().toString().equals("(true)")) {
                loops.add(at(node));
            }
            openLoops++;
            super.visitWhileLoop(node, p);
            openLoops--;
            return null;
        }

        @Override
        public Void visitDoWhileLoop(DoWhileLoopTree node, Void p) {
            notWritten.add(at(node));
            return super.visitDoWhileLoop(node, p);
        }

        /** Rule 6: only a written text, and never in a constructor. */
        @Override
        public Void visitThrow(ThrowTree node, Void p) {
            if (!(node.getExpression() instanceof NewClassTree) || methodName.endsWith(".<init>")) {
                notWritten.add(at(node));
                return super.visitThrow(node, p);
            }
            for (ExpressionTree text : ((NewClassTree) node.getExpression()).getArguments()) {
                if (!(text instanceof LiteralTree)) {
                    notWritten.add(at(node));
                }
            }
            return super.visitThrow(node, p);
        }

        @Override
        public Void visitTry(TryTree node, Void p) {
            notWritten.add(at(node));
            return super.visitTry(node, p);
        }

        @Override
        public Void visitLambdaExpression(LambdaExpressionTree node, Void p) {
            notWritten.add(at(node));
            return super.visitLambdaExpression(node, p);
        }

        @Override
        public Void visitMemberReference(MemberReferenceTree node, Void p) {
            notWritten.add(at(node));
            return super.visitMemberReference(node, p);
        }

        @Override
        public Void visitSynchronized(SynchronizedTree node, Void p) {
            notWritten.add(at(node));
            return super.visitSynchronized(node, p);
        }

        @Override
        public Void visitAssert(AssertTree node, Void p) {
            notWritten.add(at(node));
            return super.visitAssert(node, p);
        }
    }
}
