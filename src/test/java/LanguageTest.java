import com.sun.source.tree.AssertTree;
import com.sun.source.tree.ClassTree;
import com.sun.source.tree.CompilationUnitTree;
import com.sun.source.tree.DoWhileLoopTree;
import com.sun.source.tree.ExpressionTree;
import com.sun.source.tree.ForLoopTree;
import com.sun.source.tree.IdentifierTree;
import com.sun.source.tree.ImportTree;
import com.sun.source.tree.LambdaExpressionTree;
import com.sun.source.tree.LiteralTree;
import com.sun.source.tree.MemberReferenceTree;
import com.sun.source.tree.MemberSelectTree;
import com.sun.source.tree.MethodInvocationTree;
import com.sun.source.tree.MethodTree;
import com.sun.source.tree.NewArrayTree;
import com.sun.source.tree.NewClassTree;
import com.sun.source.tree.PackageTree;
import com.sun.source.tree.SynchronizedTree;
import com.sun.source.tree.ThrowTree;
import com.sun.source.tree.Tree;
import com.sun.source.tree.TryTree;
import com.sun.source.tree.TypeCastTree;
import com.sun.source.tree.VariableTree;
import com.sun.source.tree.WhileLoopTree;
import com.sun.source.util.JavacTask;
import com.sun.source.util.SourcePositions;
import com.sun.source.util.TreeScanner;
import com.sun.source.util.Trees;
import java.io.IOException;
import java.nio.file.Files;
import java.nio.file.Path;
import java.util.List;
import java.util.Map;
import java.util.Set;
import java.util.TreeMap;
import java.util.TreeSet;
import javax.lang.model.element.Modifier;
import javax.tools.JavaCompiler;
import javax.tools.StandardJavaFileManager;
import javax.tools.ToolProvider;

/**
 * The rules of LANGUAGE.md, as far as the class's tree of syntax shows them. The class does with less than the rules
 * leave it, and the test holds it to that: no try, no cast, no text but of exceptions, loops by counters alone.
 */
public final class LanguageTest extends Due {
    private static final Path FILE = Path.of("src/main/java/VehicleChecks.java");
    private static final Set<String> PLAIN_TYPES = Set.of("int", "long", "boolean");
    private static final Set<String> THROWN = Set.of("IllegalArgumentException", "IndexOutOfBoundsException",
        "IllegalStateException", "UnsupportedOperationException");
    private static final Set<String> LIBRARY = Set.of("Math.max");
    private static final int MOST_PARAMETERS = 7;
    private static final int MOST_LINES = 60;
    private static final int DEEPEST_CALLS = 8;
    private static final int MOST_CLASSES = 12;
    private static final int MOST_FIELDS = 20;

    private static final Set<String> OWN_CLASSES = new TreeSet<>();
    private static final Map<String, Set<String>> CALLS = new TreeMap<>();
    private static int loops = 0;

    public static void main(String[] args) throws IOException {
        String text = Files.readString(FILE);
        compare("characters 0 to 127", text.chars().allMatch(c -> c < 128) ? "characters 0 to 127" : "others too");
        JavaCompiler compiler = ToolProvider.getSystemJavaCompiler();
        try (StandardJavaFileManager files = compiler.getStandardFileManager(null, null, null)) {
            JavacTask task = (JavacTask) compiler.getTask(null, files, null, List.of("-proc:none"), null,
                files.getJavaFileObjects(FILE));
            SourcePositions positions = Trees.instance(task).getSourcePositions();
            for (CompilationUnitTree unit : task.parse()) {
                new ClassNames().scan(unit, null);
                new Rules(unit, positions).scan(unit, null);
            }
        }
        compare("at most " + MOST_CLASSES + " classes", OWN_CLASSES.size() <= MOST_CLASSES
            ? "at most " + MOST_CLASSES + " classes" : OWN_CLASSES.size() + " classes");
        callsEndAndStayLow();
        is(true, () -> loops > 0);
        end();
    }

    /** Each method has a name of its own, so that names tell who calls whom. */
    private static void callsEndAndStayLow() {
        for (String name : CALLS.keySet()) {
            int deep = depth(name, 1);
            compare(name + " goes at most " + DEEPEST_CALLS + " deep", name + " goes "
                + (deep <= DEEPEST_CALLS ? "at most " + DEEPEST_CALLS : "" + deep) + " deep");
        }
    }

    private static int depth(String name, int level) {
        int deepest = level;
        for (String called : CALLS.getOrDefault(name, Set.of())) {
            if (deepest <= DEEPEST_CALLS) {
                deepest = Math.max(deepest, depth(called, level + 1));
            }
        }
        return deepest;
    }

    private static final class ClassNames extends TreeScanner<Void, Void> {
        @Override
        public Void visitClass(ClassTree one, Void nothing) {
            OWN_CLASSES.add(one.getSimpleName().toString());
            return super.visitClass(one, nothing);
        }
    }

    private static final class Rules extends TreeScanner<Void, Void> {
        private final CompilationUnitTree unit;
        private final SourcePositions positions;
        private String method = "";

        Rules(CompilationUnitTree itsUnit, SourcePositions itsPositions) {
            unit = itsUnit;
            positions = itsPositions;
        }

        private void holds(boolean good, String rule, Tree where) {
            String line = "line " + lineOf(positions.getStartPosition(unit, where)) + ": ";
            compare(line + rule, good ? line + rule : line + "not so: " + where);
        }

        private long lineOf(long position) {
            return unit.getLineMap().getLineNumber(position);
        }

        @Override
        public Void visitPackage(PackageTree t, Void n) {
            holds(false, "no package", t);
            return null;
        }

        @Override
        public Void visitImport(ImportTree t, Void n) {
            holds(false, "no import", t);
            return null;
        }

        @Override
        public Void visitClass(ClassTree one, Void n) {
            boolean face = one.getSimpleName().contentEquals("VehicleChecks");
            Set<Modifier> modifiers = one.getModifiers().getFlags();
            holds(one.getKind() == Tree.Kind.CLASS && modifiers.contains(Modifier.FINAL), "a final class", one);
            holds(face ? modifiers.contains(Modifier.PUBLIC) : modifiers.contains(Modifier.PRIVATE)
                && modifiers.contains(Modifier.STATIC), "the face is public, others private and static", one);
            holds(one.getExtendsClause() == null && one.getImplementsClause().isEmpty(), "stands by itself", one);
            int fields = 0;
            for (Tree member : one.getMembers()) {
                holds(member.getKind() == Tree.Kind.VARIABLE || member.getKind() == Tree.Kind.METHOD
                    || face && member.getKind() == Tree.Kind.CLASS, "a field, a method or a class inside", member);
                if (member instanceof VariableTree) {
                    VariableTree field = (VariableTree) member;
                    checkField(field);
                    fields += field.getModifiers().getFlags().contains(Modifier.STATIC) ? 0 : 1;
                }
            }
            holds(fields <= MOST_FIELDS, "at most " + MOST_FIELDS + " fields", one);
            return super.visitClass(one, n);
        }

        private void checkField(VariableTree field) {
            String type = field.getType().toString();
            if (field.getModifiers().getFlags().contains(Modifier.STATIC)) {
                holds(field.getModifiers().getFlags().contains(Modifier.FINAL) && PLAIN_TYPES.contains(type),
                    "static fields are constants of numbers", field);
            } else {
                String element = type.endsWith("[]") ? type.substring(0, type.length() - 2) : type;
                holds(PLAIN_TYPES.contains(element) || OWN_CLASSES.contains(element), "an allowed type", field);
            }
        }

        @Override
        public Void visitVariable(VariableTree one, Void n) {
            String type = one.getType() == null ? "var" : one.getType().toString();
            holds(PLAIN_TYPES.contains(type.replace("[]", "")) || OWN_CLASSES.contains(type.replace("[]", "")),
                "int, long, boolean, own classes, rows of these", one);
            return super.visitVariable(one, n);
        }

        @Override
        public Void visitMethod(MethodTree one, Void n) {
            String before = method;
            method = one.getName().toString();
            boolean maker = method.equals("<init>");
            holds(maker || !CALLS.containsKey(method), "a name of its own", one);
            holds(!Set.of("equals", "hashCode", "toString", "clone", "finalize").contains(method), "no such method", one);
            holds(one.getParameters().size() <= MOST_PARAMETERS, "at most " + MOST_PARAMETERS + " parameters", one);
            long lines = lineOf(positions.getEndPosition(unit, one)) - lineOf(positions.getStartPosition(unit, one)) + 1;
            holds(lines <= MOST_LINES, "at most " + MOST_LINES + " lines", one);
            CALLS.putIfAbsent(method, new TreeSet<>());
            super.visitMethod(one, n);
            method = before;
            return null;
        }

        @Override
        public Void visitThrow(ThrowTree one, Void n) {
            holds(!method.equals("<init>"), "no throw in a constructor", one);
            boolean good = one.getExpression() instanceof NewClassTree;
            if (good) {
                NewClassTree made = (NewClassTree) one.getExpression();
                good = THROWN.contains(made.getIdentifier().toString()) && made.getClassBody() == null
                    && made.getArguments().size() == 1 && made.getArguments().get(0).getKind() == Tree.Kind.STRING_LITERAL;
            }
            holds(good, "throw new E(\"a written text\")", one);
            return null;
        }

        @Override
        public Void visitNewClass(NewClassTree one, Void n) {
            String made = one.getIdentifier().toString();
            holds(method.equals("<init>") && made.equals("Kind") || method.equals("vehicle") && made.equals("Vehicle"),
                "only the constructor makes kinds and only vehicle() a vehicle", one);
            return super.visitNewClass(one, n);
        }

        @Override
        public Void visitNewArray(NewArrayTree one, Void n) {
            holds(method.isEmpty() || method.equals("<init>"), "rows are made with their object", one);
            boolean constantLength = one.getDimensions().size() == 1 && one.getDimensions().get(0) instanceof IdentifierTree
                && one.getDimensions().get(0).toString().matches("[A-Z_]+");
            holds(constantLength, "one dimension of a constant's length", one);
            return super.visitNewArray(one, n);
        }

        @Override
        public Void visitMethodInvocation(MethodInvocationTree call, Void n) {
            ExpressionTree called = call.getMethodSelect();
            String name = called instanceof MemberSelectTree ? ((MemberSelectTree) called).getIdentifier().toString()
                : called.toString();
            boolean library = called instanceof MemberSelectTree
                && ((MemberSelectTree) called).getExpression().toString().matches("[A-Z]\\w*[a-z]\\w*");
            if (library) {
                holds(LIBRARY.contains(called.toString()), "a call of the library that the class is known to use", call);
            } else if (!name.equals("super")) {
                CALLS.computeIfAbsent(method, m -> new TreeSet<>()).add(name);
            }
            return super.visitMethodInvocation(call, n);
        }

        /** The counter goes from 0 against a constant, whatever else may end the loop before. */
        @Override
        public Void visitForLoop(ForLoopTree loop, Void n) {
            loops++;
            String head = String.valueOf(loop.getInitializer()) + loop.getCondition() + loop.getUpdate();
            holds(head.matches("int (\\w+) = 0\\1 < [A-Z_]+( && .*)?\\1\\+\\+;"), "a counter against a constant", loop);
            return super.visitForLoop(loop, n);
        }

        @Override
        public Void visitLiteral(LiteralTree one, Void n) {
            holds(one.getKind() != Tree.Kind.STRING_LITERAL && one.getKind() != Tree.Kind.DOUBLE_LITERAL
                && one.getKind() != Tree.Kind.FLOAT_LITERAL, "no text but of an exception, no broken number", one);
            return super.visitLiteral(one, n);
        }

        @Override
        public Void visitTry(TryTree t, Void n) {
            holds(false, "no try", t);
            return null;
        }

        @Override
        public Void visitTypeCast(TypeCastTree t, Void n) {
            holds(false, "no cast", t);
            return null;
        }

        @Override
        public Void visitLambdaExpression(LambdaExpressionTree t, Void n) {
            holds(false, "no lambda", t);
            return null;
        }

        @Override
        public Void visitMemberReference(MemberReferenceTree t, Void n) {
            holds(false, "no method reference", t);
            return null;
        }

        @Override
        public Void visitSynchronized(SynchronizedTree t, Void n) {
            holds(false, "no synchronized", t);
            return null;
        }

        @Override
        public Void visitAssert(AssertTree t, Void n) {
            holds(false, "no assert", t);
            return null;
        }

        @Override
        public Void visitWhileLoop(WhileLoopTree t, Void n) {
            holds(false, "no while", t);
            return null;
        }

        @Override
        public Void visitDoWhileLoop(DoWhileLoopTree t, Void n) {
            holds(false, "no do", t);
            return null;
        }
    }
}
