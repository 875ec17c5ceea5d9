import com.sun.source.tree.ArrayAccessTree;
import com.sun.source.tree.AssertTree;
import com.sun.source.tree.AssignmentTree;
import com.sun.source.tree.BinaryTree;
import com.sun.source.tree.CaseTree;
import com.sun.source.tree.ClassTree;
import com.sun.source.tree.CompilationUnitTree;
import com.sun.source.tree.CompoundAssignmentTree;
import com.sun.source.tree.ExpressionTree;
import com.sun.source.tree.ForLoopTree;
import com.sun.source.tree.LambdaExpressionTree;
import com.sun.source.tree.MemberReferenceTree;
import com.sun.source.tree.MethodInvocationTree;
import com.sun.source.tree.MethodTree;
import com.sun.source.tree.NewArrayTree;
import com.sun.source.tree.NewClassTree;
import com.sun.source.tree.SynchronizedTree;
import com.sun.source.tree.ThrowTree;
import com.sun.source.tree.Tree;
import com.sun.source.tree.TryTree;
import com.sun.source.tree.TypeCastTree;
import com.sun.source.tree.UnaryTree;
import com.sun.source.tree.VariableTree;
import com.sun.source.tree.WhileLoopTree;
import com.sun.source.util.JavacTask;
import com.sun.source.util.TreePathScanner;
import com.sun.source.util.Trees;
import java.io.IOException;
import java.nio.file.Path;
import java.util.HashMap;
import java.util.List;
import java.util.Map;
import java.util.Set;
import java.util.TreeMap;
import java.util.TreeSet;
import javax.lang.model.element.Element;
import javax.lang.model.element.ElementKind;
import javax.lang.model.element.ExecutableElement;
import javax.lang.model.element.Modifier;
import javax.lang.model.element.VariableElement;
import javax.lang.model.type.ArrayType;
import javax.lang.model.type.TypeKind;
import javax.lang.model.type.TypeMirror;
import javax.tools.JavaCompiler;
import javax.tools.StandardJavaFileManager;
import javax.tools.ToolProvider;

/** Rules of ../shared/LANGUAGE.md that can be seen from the class as the compiler reads it: what is called, and how deep. */
public final class SightSpacingSource {
    private static final Path SOURCE = Path.of("src/main/java/SightSpacing.java");
    private static final int MOST_DEEP = 8;
    private static final Set<String> LIBRARY = Set.of(
            "java.lang.String.length", "java.lang.String.charAt", "java.lang.String.isEmpty", "java.lang.String.equals",
            "java.lang.String.substring", "java.lang.String.toCharArray",
            "java.lang.StringBuilder.append(char)", "java.lang.StringBuilder.append(java.lang.String)",
            "java.lang.StringBuilder.append(int)", "java.lang.StringBuilder.charAt", "java.lang.StringBuilder.setCharAt",
            "java.lang.StringBuilder.setLength", "java.lang.StringBuilder.deleteCharAt", "java.lang.StringBuilder.reverse",
            "java.lang.StringBuilder.length", "java.lang.StringBuilder.toString",
            "java.lang.Math.max", "java.lang.Math.min", "java.lang.Math.abs", "java.lang.Math.floorDiv",
            "java.lang.Math.floorMod", "java.lang.Integer.compare", "java.lang.Integer.bitCount",
            "java.lang.System.arraycopy", "java.util.Arrays.copyOf", "java.util.Arrays.copyOfRange", "java.util.Arrays.fill",
            "java.lang.Object.<init>");

    // Divisors that are no constants, each with the method that has it: they were read, and cannot be 0 there.
    private static final Set<String> LOOKED_AT = Set.of(
            "SightSpacing.draw n",
            "SightSpacing.State.figure PLACE_VALUES[h]",
            "SightSpacing.Sight.meanAbove commonDivisor(above, parts)",
            "SightSpacing.Sight.meanBelow commonDivisor(meanSum() + GAP_BASE * parts, parts)",
            "SightSpacing.Sight.commonDivisor by",
            "SightSpacing.Sight.writeLine lefts.count");

    private static final Map<String, Set<String>> CALLS = new TreeMap<>();
    private static final Map<String, Element> METHODS = new TreeMap<>();
    private static int wrong = 0;
    private static int looked = 0;

    private static void hold(int rule, String what, boolean holds) {
        looked++;
        if (!holds) {
            wrong++;
            System.out.println("rule " + rule + ": " + what);
        }
    }

    private static boolean isOwn(Element e) {
        Element at = e;
        while (at != null && at.getKind() != ElementKind.PACKAGE) {
            if (at.getSimpleName().contentEquals("SightSpacing")) {
                return true;
            }
            at = at.getEnclosingElement();
        }
        return false;
    }

    private static String name(Element e) {
        return e.getEnclosingElement() + "." + e;
    }

    private static final class Look extends TreePathScanner<Void, Void> {
        private final Trees trees;
        private final CompilationUnitTree unit;
        private String method = "";
        private int loops = 0;

        Look(Trees trees, CompilationUnitTree unit) {
            this.trees = trees;
            this.unit = unit;
        }

        private String at(Tree tree) {
            long line = unit.getLineMap().getLineNumber(trees.getSourcePositions().getStartPosition(unit, tree));
            return "line " + line + ": " + tree.toString().replaceAll("\\s+", " ").trim();
        }

        private TypeMirror type(Tree tree) {
            return trees.getTypeMirror(trees.getPath(unit, tree));
        }

        private boolean isText(Tree tree) {
            return "java.lang.String".equals(String.valueOf(type(tree)));
        }

        private boolean isObject(Tree tree) {
            TypeMirror t = type(tree);
            return t != null && (t.getKind() == TypeKind.DECLARED || t.getKind() == TypeKind.ARRAY);
        }

        private void called(ExecutableElement e, Tree tree) {
            if (isOwn(e)) {
                CALLS.computeIfAbsent(method, k -> new TreeSet<>()).add(name(e));
                return;
            }
            String owner = e.getEnclosingElement().toString().replace("AbstractStringBuilder", "StringBuilder");
            String plain = owner + "." + e.getSimpleName();
            String full = owner + "." + e;
            hold(4, "the library's " + full + " at " + at(tree), LIBRARY.contains(plain) || LIBRARY.contains(full));
        }

        @Override
        public Void visitClass(ClassTree tree, Void v) {
            Element e = trees.getElement(getCurrentPath());
            boolean outer = e.getEnclosingElement().getKind() == ElementKind.PACKAGE;
            hold(2, "a class inside is static: " + e, outer || e.getModifiers().contains(Modifier.STATIC));
            hold(1, "a class inside is not public: " + e, outer != !e.getModifiers().contains(Modifier.PUBLIC));
            hold(5, "no block that stands by itself: " + e,
                    tree.getMembers().stream().noneMatch(m -> m.getKind() == Tree.Kind.BLOCK));
            return super.visitClass(tree, v);
        }

        @Override
        public Void visitMethod(MethodTree tree, Void v) {
            Element e = trees.getElement(getCurrentPath());
            method = name(e);
            METHODS.put(method, e);
            super.visitMethod(tree, v);
            method = "";
            return null;
        }

        @Override
        public Void visitVariable(VariableTree tree, Void v) {
            Element e = trees.getElement(getCurrentPath());
            dueType(e.asType(), tree);
            if (e.getKind() == ElementKind.FIELD && e.getModifiers().contains(Modifier.STATIC)) {
                boolean written = e.asType().getKind() == TypeKind.ARRAY
                        ? tree.getInitializer() instanceof NewArrayTree made && made.getInitializers() != null
                        : ((VariableElement) e).getConstantValue() != null;
                hold(5, "a constant at " + at(tree), written && e.getModifiers().contains(Modifier.FINAL));
            }
            return super.visitVariable(tree, v);
        }

        private void dueType(TypeMirror type, Tree tree) {
            TypeMirror of = type instanceof ArrayType array ? array.getComponentType() : type;
            boolean fine = of.getKind().isPrimitive() && of.getKind() != TypeKind.DOUBLE && of.getKind() != TypeKind.FLOAT
                    || String.valueOf(of).startsWith("SightSpacing")
                    || Set.of("java.lang.String", "java.lang.StringBuilder").contains(String.valueOf(of));
            hold(3, "the type " + type + " at " + at(tree), fine);
        }

        @Override
        public Void visitMethodInvocation(MethodInvocationTree tree, Void v) {
            Element e = trees.getElement(trees.getPath(unit, tree.getMethodSelect()));
            called((ExecutableElement) e, tree);
            return super.visitMethodInvocation(tree, v);
        }

        @Override
        public Void visitNewClass(NewClassTree tree, Void v) {
            ExecutableElement e = (ExecutableElement) trees.getElement(getCurrentPath());
            boolean builder = e.getEnclosingElement().toString().equals("java.lang.StringBuilder");
            hold(12, "what is made at " + at(tree), tree.getClassBody() == null && (isOwn(e) || builder));
            boolean constructor = method.isEmpty() || METHODS.get(method).getKind() == ElementKind.CONSTRUCTOR;
            hold(12, "objects of one's own are made in constructors: " + at(tree), builder ? loops == 0 : constructor);
            return super.visitNewClass(tree, v);
        }

        @Override
        public Void visitNewArray(NewArrayTree tree, Void v) {
            boolean constructor = method.isEmpty() || METHODS.get(method).getKind() == ElementKind.CONSTRUCTOR;
            hold(12, "rows are made in constructors: " + at(tree), constructor);
            return super.visitNewArray(tree, v);
        }

        @Override
        public Void visitForLoop(ForLoopTree tree, Void v) {
            hold(9, "a loop's counter has a bound at " + at(tree.getCondition()),
                    tree.getCondition() != null && tree.getUpdate().size() == 1);
            loops++;
            super.visitForLoop(tree, v);
            loops--;
            return null;
        }

        @Override
        public Void visitWhileLoop(WhileLoopTree tree, Void v) {
            hold(9, "a loop's counter has a bound at " + at(tree),
                    tree.getCondition().toString().startsWith("(next < length && ")
                            && tree.getStatement().toString().replaceAll("\\s", "").equals("{next++;}"));
            loops++;
            super.visitWhileLoop(tree, v);
            loops--;
            return null;
        }

        @Override
        public Void visitBinary(BinaryTree tree, Void v) {
            hold(10, "no text joined by + at " + at(tree), !isText(tree));
            if (tree.getKind() == Tree.Kind.EQUAL_TO || tree.getKind() == Tree.Kind.NOT_EQUAL_TO) {
                hold(6, "numbers compared at " + at(tree), !isObject(tree.getLeftOperand()) && !isObject(tree.getRightOperand()));
            }
            if (tree.getKind() == Tree.Kind.DIVIDE || tree.getKind() == Tree.Kind.REMAINDER) {
                hold(7, "a divisor that was looked at, at " + at(tree), isLookedAt(tree.getRightOperand()));
            }
            return super.visitBinary(tree, v);
        }

        private boolean isLookedAt(ExpressionTree divisor) {
            Element e = trees.getElement(trees.getPath(unit, divisor));
            boolean fixed = divisor.getKind() == Tree.Kind.INT_LITERAL
                    || e instanceof VariableElement c && c.getConstantValue() != null;
            return fixed || LOOKED_AT.contains(method.replaceAll("\\(.*", "") + " " + divisor);
        }

        private void dueTarget(Tree target, Tree tree) {
            Tree row = target instanceof ArrayAccessTree one ? one.getExpression() : target;
            Element e = trees.getElement(trees.getPath(unit, row));
            hold(5, "what is static is never changed, at " + at(tree), e != null && !e.getModifiers().contains(Modifier.STATIC));
        }

        @Override
        public Void visitAssignment(AssignmentTree tree, Void v) {
            dueTarget(tree.getVariable(), tree);
            return super.visitAssignment(tree, v);
        }

        @Override
        public Void visitUnary(UnaryTree tree, Void v) {
            if (tree.getKind() == Tree.Kind.POSTFIX_INCREMENT || tree.getKind() == Tree.Kind.POSTFIX_DECREMENT
                    || tree.getKind() == Tree.Kind.PREFIX_INCREMENT || tree.getKind() == Tree.Kind.PREFIX_DECREMENT) {
                dueTarget(tree.getExpression(), tree);
            }
            return super.visitUnary(tree, v);
        }

        @Override
        public Void visitCompoundAssignment(CompoundAssignmentTree tree, Void v) {
            dueTarget(tree.getVariable(), tree);
            hold(7, "no division by assignment at " + at(tree), tree.getKind() != Tree.Kind.DIVIDE_ASSIGNMENT
                    && tree.getKind() != Tree.Kind.REMAINDER_ASSIGNMENT);
            hold(10, "no text joined by += at " + at(tree), !isText(tree));
            return super.visitCompoundAssignment(tree, v);
        }

        @Override
        public Void visitTypeCast(TypeCastTree tree, Void v) {
            hold(6, "a cast of a number at " + at(tree), tree.getType().toString().equals("char"));
            return super.visitTypeCast(tree, v);
        }

        @Override
        public Void visitCase(CaseTree tree, Void v) {
            hold(6, "a case with ':' at " + at(tree), tree.getCaseKind() == CaseTree.CaseKind.STATEMENT);
            return super.visitCase(tree, v);
        }

        @Override
        public Void visitLambdaExpression(LambdaExpressionTree tree, Void v) {
            hold(2, "no lambda at " + at(tree), false);
            return super.visitLambdaExpression(tree, v);
        }

        @Override
        public Void visitMemberReference(MemberReferenceTree tree, Void v) {
            hold(2, "no method reference at " + at(tree), false);
            return super.visitMemberReference(tree, v);
        }

        @Override
        public Void visitThrow(ThrowTree tree, Void v) {
            hold(6, "no throw at " + at(tree), false);
            return super.visitThrow(tree, v);
        }

        @Override
        public Void visitTry(TryTree tree, Void v) {
            hold(6, "no try at " + at(tree), false);
            return super.visitTry(tree, v);
        }

        @Override
        public Void visitAssert(AssertTree tree, Void v) {
            hold(6, "no assert at " + at(tree), false);
            return super.visitAssert(tree, v);
        }

        @Override
        public Void visitSynchronized(SynchronizedTree tree, Void v) {
            hold(6, "no synchronized at " + at(tree), false);
            return super.visitSynchronized(tree, v);
        }
    }

    /** How deep calls go from here on, this one, too; a method that calls itself counts once. */
    private static int depth(String from, Map<String, Integer> known, Set<String> open) {
        if (known.containsKey(from)) {
            return known.get(from);
        }
        open.add(from);
        int most = 0;
        for (String to : CALLS.getOrDefault(from, Set.of())) {
            if (to.equals(from)) {
                Set<Modifier> has = METHODS.get(to).getModifiers();
                hold(8, to + " calls itself: private and static", has.containsAll(List.of(Modifier.PRIVATE, Modifier.STATIC)));
            } else if (open.contains(to)) {
                hold(8, "methods that call one another: " + from + ", " + to, false);
            } else {
                most = Math.max(most, depth(to, known, open));
            }
        }
        open.remove(from);
        known.put(from, most + 1);
        return most + 1;
    }

    private static void depths() {
        Map<String, Integer> known = new HashMap<>();
        for (String method : METHODS.keySet()) {
            int deep = depth(method, known, new TreeSet<>());
            hold(11, method + " goes " + deep + " deep", deep <= MOST_DEEP);
        }
    }

    private static void allUsed() {
        Set<String> used = new TreeSet<>();
        CALLS.values().forEach(used::addAll);
        for (Map.Entry<String, Element> m : METHODS.entrySet()) {
            boolean face = m.getValue().getModifiers().contains(Modifier.PUBLIC);
            hold(1, m.getKey() + " is of the face, or used", face || used.contains(m.getKey())
                    || m.getValue().getKind() == ElementKind.CONSTRUCTOR);
        }
    }

    public static void main(String[] args) throws IOException {
        JavaCompiler compiler = ToolProvider.getSystemJavaCompiler();
        try (StandardJavaFileManager files = compiler.getStandardFileManager(null, null, null)) {
            JavacTask task = (JavacTask) compiler.getTask(null, files, null, List.of("-proc:none"), null,
                    files.getJavaFileObjects(SOURCE));
            CompilationUnitTree unit = task.parse().iterator().next();
            task.analyze();
            new Look(Trees.instance(task), unit).scan(unit, null);
        }
        depths();
        allUsed();
        System.out.println(METHODS.size() + " methods, " + looked + " looks, " + wrong + " not within the rules");
        if (wrong != 0) {
            System.exit(1);
        }
    }
}
