import com.sun.source.tree.AssertTree;
import com.sun.source.tree.BinaryTree;
import com.sun.source.tree.ClassTree;
import com.sun.source.tree.CompilationUnitTree;
import com.sun.source.tree.DoWhileLoopTree;
import com.sun.source.tree.ForLoopTree;
import com.sun.source.tree.IdentifierTree;
import com.sun.source.tree.ImportTree;
import com.sun.source.tree.InstanceOfTree;
import com.sun.source.tree.LambdaExpressionTree;
import com.sun.source.tree.LineMap;
import com.sun.source.tree.LiteralTree;
import com.sun.source.tree.MemberReferenceTree;
import com.sun.source.tree.MemberSelectTree;
import com.sun.source.tree.MethodInvocationTree;
import com.sun.source.tree.MethodTree;
import com.sun.source.tree.NewArrayTree;
import com.sun.source.tree.NewClassTree;
import com.sun.source.tree.SynchronizedTree;
import com.sun.source.tree.ThrowTree;
import com.sun.source.tree.Tree;
import com.sun.source.tree.TryTree;
import com.sun.source.tree.TypeCastTree;
import com.sun.source.tree.VariableTree;
import com.sun.source.tree.WhileLoopTree;
import com.sun.source.util.JavacTask;
import com.sun.source.util.SourcePositions;
import com.sun.source.util.TreeScanner;
import com.sun.source.util.Trees;
import java.io.File;
import java.io.IOException;
import java.util.HashMap;
import java.util.List;
import java.util.Map;
import java.util.Set;
import java.util.TreeSet;
import javax.lang.model.element.Modifier;
import javax.tools.JavaCompiler;
import javax.tools.StandardJavaFileManager;
import javax.tools.ToolProvider;

/** The rules of LANGUAGE.md that can be read off the source (rule 1 has FaceTest, rule 7 AnythingTest). */
public final class LanguageTest {
    private static final Check CHECK = new Check("LanguageTest");
    private static final Set<String> IMPORTS = Set.of("java.util.Arrays", "java.util.NoSuchElementException");
    private static final Set<String> LIBRARY = Set.of("Arrays.fill", "Integer.bitCount", "Math.max", "Math.min", "letters.length", "letters.charAt");
    private static final Set<String> TYPES = Set.of("int", "long", "byte", "boolean", "String", "void");

    private static CompilationUnitTree unit;
    private static SourcePositions positions;
    private static final Map<String, Set<String>> CALLS = new HashMap<>();
    private static final Set<String> CLASSES = new TreeSet<>();

    public static void main(String[] args) throws IOException {
        JavaCompiler compiler = ToolProvider.getSystemJavaCompiler();
        try (StandardJavaFileManager files = compiler.getStandardFileManager(null, null, null)) {
            JavacTask task = (JavacTask) compiler.getTask(null, files, null, List.of("-proc:none"), null,
                files.getJavaFileObjects(new File("src/main/java/EclipseCheese.java")));
            unit = task.parse().iterator().next();
            positions = Trees.instance(task).getSourcePositions();
            read();
        }
        CHECK.end();
    }

    private static void read() {
        CHECK.same("no package", unit.getPackageName() == null, true);
        CHECK.same("one class", unit.getTypeDecls().size(), 1);
        for (ImportTree line : unit.getImports()) {
            rule(4, line, IMPORTS.contains(line.getQualifiedIdentifier().toString()) && !line.isStatic());
        }
        new Names().scan(unit, null);
        new Rules().scan(unit, null);
        rule(11, unit, CLASSES.size() <= 12);
        for (String method : CALLS.keySet()) {
            int deep = depth(method, 0);
            CHECK.same("rules 8, 11: calls go at most eight deep from " + method + ", not " + deep, deep <= 8, true);
        }
    }

    private static void rule(int number, Tree at, boolean holds) {
        LineMap lines = unit.getLineMap();
        CHECK.same("rule " + number + " in line " + lines.getLineNumber(positions.getStartPosition(unit, at)), holds, true);
    }

    private static long lines(Tree tree) {
        LineMap map = unit.getLineMap();
        return map.getLineNumber(positions.getEndPosition(unit, tree)) - map.getLineNumber(positions.getStartPosition(unit, tree)) + 1;
    }

    /** Over all methods of a name, whichever class has it; recursion would go beyond any bound. */
    private static int depth(String method, int above) {
        int most = 0;
        if (above > 40) {
            return 100;
        }
        for (String called : CALLS.getOrDefault(method, Set.of())) {
            most = Math.max(most, depth(called, above + 1));
        }
        return CALLS.containsKey(method) ? most + 1 : 0;
    }

    /** The methods and classes of the file. */
    private static final class Names extends TreeScanner<Void, Void> {
        @Override
        public Void visitClass(ClassTree tree, Void unused) {
            CLASSES.add(tree.getSimpleName().toString());
            return super.visitClass(tree, unused);
        }

        @Override
        public Void visitMethod(MethodTree tree, Void unused) {
            CALLS.putIfAbsent(tree.getName().toString(), new TreeSet<>());
            return super.visitMethod(tree, unused);
        }
    }

    private static final class Rules extends TreeScanner<Void, Void> {
        private String method;
        private boolean inThrow;

        // rules 1, 2, 5, 11: classes, fields, methods

        @Override
        public Void visitClass(ClassTree tree, Void unused) {
            boolean face = tree.getSimpleName().contentEquals("EclipseCheese");
            Set<Modifier> flags = tree.getModifiers().getFlags();
            rule(2, tree, method == null && (face || flags.contains(Modifier.STATIC)));
            int fields = 0;
            for (Tree member : tree.getMembers()) {
                rule(5, member, member.getKind() != Tree.Kind.BLOCK);
                if (member instanceof VariableTree field) {
                    boolean constant = field.getModifiers().getFlags().contains(Modifier.STATIC);
                    rule(5, field, !constant || field.getModifiers().getFlags().contains(Modifier.FINAL) && isNumber(field.getInitializer()));
                    fields += constant ? 0 : 1;
                }
            }
            rule(11, tree, fields <= 20);
            return super.visitClass(tree, unused);
        }

        private static boolean isNumber(Tree value) {
            return value != null && (value.getKind() == Tree.Kind.INT_LITERAL || value.getKind() == Tree.Kind.UNARY_MINUS);
        }

        @Override
        public Void visitMethod(MethodTree tree, Void unused) {
            method = tree.getName().toString();
            rule(11, tree, tree.getParameters().size() <= 7);
            rule(11, tree, lines(tree) <= 60);
            rule(6, tree, tree.getThrows().isEmpty() == !method.equals("led"));
            if (tree.getReturnType() != null) {
                type(tree.getReturnType());
            }
            super.visitMethod(tree, unused);
            method = null;
            return null;
        }

        // rule 3: types

        @Override
        public Void visitVariable(VariableTree tree, Void unused) {
            type(tree.getType());
            return super.visitVariable(tree, unused);
        }

        private static void type(Tree tree) {
            String name = tree.toString().replaceFirst("\\[\\]$", "");
            rule(3, tree, TYPES.contains(name) || CLASSES.contains(name));
        }

        // rules 2, 6, 10: what may not stand there at all

        @Override
        public Void visitLambdaExpression(LambdaExpressionTree tree, Void unused) {
            rule(2, tree, false);
            return null;
        }

        @Override
        public Void visitMemberReference(MemberReferenceTree tree, Void unused) {
            rule(2, tree, false);
            return null;
        }

        @Override
        public Void visitTry(TryTree tree, Void unused) {
            rule(6, tree, false);
            return null;
        }

        @Override
        public Void visitAssert(AssertTree tree, Void unused) {
            rule(6, tree, false);
            return null;
        }

        @Override
        public Void visitSynchronized(SynchronizedTree tree, Void unused) {
            rule(6, tree, false);
            return null;
        }

        @Override
        public Void visitInstanceOf(InstanceOfTree tree, Void unused) {
            rule(6, tree, false);
            return null;
        }

        @Override
        public Void visitTypeCast(TypeCastTree tree, Void unused) {
            rule(6, tree, tree.getType().getKind() == Tree.Kind.PRIMITIVE_TYPE);
            return super.visitTypeCast(tree, unused);
        }

        @Override
        public Void visitBinary(BinaryTree tree, Void unused) {
            boolean text = tree.getLeftOperand().getKind() == Tree.Kind.STRING_LITERAL || tree.getRightOperand().getKind() == Tree.Kind.STRING_LITERAL;
            rule(10, tree, !text);
            boolean divides = tree.getKind() == Tree.Kind.DIVIDE || tree.getKind() == Tree.Kind.REMAINDER;
            boolean guarded = Set.of("range", "DRAW_RANGE").contains(tree.getRightOperand().toString());
            rule(7, tree, !divides || guarded);
            return super.visitBinary(tree, unused);
        }

        // rules 6, 12: what is made, and where

        @Override
        public Void visitThrow(ThrowTree tree, Void unused) {
            boolean made = tree.getExpression() instanceof NewClassTree created && created.getIdentifier().toString().equals("NoSuchElementException")
                && created.getArguments().size() == 1 && created.getArguments().get(0) instanceof LiteralTree;
            rule(6, tree, made && method.equals("led"));
            inThrow = true;
            super.visitThrow(tree, unused);
            inThrow = false;
            return null;
        }

        @Override
        public Void visitNewClass(NewClassTree tree, Void unused) {
            rule(2, tree, tree.getClassBody() == null);
            rule(12, tree, inThrow || CLASSES.contains(tree.getIdentifier().toString()) && madeAtFirst());
            return super.visitNewClass(tree, unused);
        }

        @Override
        public Void visitNewArray(NewArrayTree tree, Void unused) {
            rule(12, tree, madeAtFirst() && tree.getDimensions().size() == 1);
            return super.visitNewArray(tree, unused);
        }

        private boolean madeAtFirst() {
            return method == null || method.equals("<init>");
        }

        // rule 9: loops

        @Override
        public Void visitWhileLoop(WhileLoopTree tree, Void unused) {
            rule(9, tree, tree.getCondition().toString().contains("next < length"));
            return super.visitWhileLoop(tree, unused);
        }

        @Override
        public Void visitDoWhileLoop(DoWhileLoopTree tree, Void unused) {
            rule(9, tree, false);
            return null;
        }

        @Override
        public Void visitForLoop(ForLoopTree tree, Void unused) {
            rule(9, tree, tree.getCondition() != null && tree.getUpdate().size() == 1);
            return super.visitForLoop(tree, unused);
        }

        // rules 4, 8, 11: calls

        @Override
        public Void visitMethodInvocation(MethodInvocationTree tree, Void unused) {
            Tree select = tree.getMethodSelect();
            String name = select instanceof MemberSelectTree member ? member.getIdentifier().toString() : select.toString();
            boolean implicit = select instanceof IdentifierTree identifier && identifier.getName().contentEquals("super");
            rule(4, tree, implicit || CALLS.containsKey(name) || LIBRARY.contains(select.toString()));
            if (method != null && CALLS.containsKey(name)) {
                CALLS.get(method).add(name);
            }
            return super.visitMethodInvocation(tree, unused);
        }
    }
}
