import com.sun.source.tree.*;
import com.sun.source.util.JavacTask;
import com.sun.source.util.TreePath;
import com.sun.source.util.TreePathScanner;
import com.sun.source.util.Trees;
import java.nio.file.Path;
import java.util.ArrayList;
import java.util.HashSet;
import java.util.LinkedHashMap;
import java.util.List;
import java.util.Map;
import java.util.Set;
import java.util.TreeSet;
import javax.lang.model.element.Element;
import javax.lang.model.element.ElementKind;
import javax.lang.model.element.ExecutableElement;
import javax.lang.model.element.Modifier;
import javax.lang.model.element.TypeElement;
import javax.lang.model.element.VariableElement;
import javax.lang.model.type.TypeMirror;
import javax.tools.JavaCompiler;
import javax.tools.StandardJavaFileManager;
import javax.tools.ToolProvider;

/** Those rules of LANGUAGE.md that can be seen in the program as javac reads it; each finding names its rule. */
public final class RulesTest {
    private static final Set<String> LIBRARY = Set.of("Integer.bitCount", "Math.min", "Math.max", "System.arraycopy",
        "String.length", "String.charAt", "Object.<init>");
    private static final Set<String> KINDS = Set.of("Pigeon", "Fancy", "Dull", "Keen", "Fast", "Old", "Told");
    /** Divisors that are no constants: both are 1 at least, as a look at the method shows. */
    private static final Set<String> DIVISORS = Set.of("GoodNewsPigeons.lowestTerm d", "GoodNewsPigeons.lowestTerm by");
    private static final Set<String> RECURSIVE = new TreeSet<>(Set.of("Loft.takesEither", "Loft.takesOne"));
    private static final int DEEPEST = 8;
    private static int wrong = 0;

    /** A call: by "super." or of a static or private method what is named runs, otherwise what the KIND has. */
    private record Call(String owner, String name, boolean isBound) {
    }

    private final Trees trees;
    private final Map<String, List<Call>> calls = new LinkedHashMap<>();
    private final Map<String, String> above = new LinkedHashMap<>();
    private final Map<String, ExecutableElement> methods = new LinkedHashMap<>();

    private RulesTest(Trees trees) {
        this.trees = trees;
    }

    private static void due(boolean isSo, int rule, String what) {
        if (!isSo) {
            wrong++;
            System.out.println("rule " + rule + ": " + what);
        }
    }

    /** Goes through the whole file; "in" is the method that is read, or null in a field's initialiser. */
    private final class Reader extends TreePathScanner<Void, String> {
        private Element element() {
            return trees.getElement(getCurrentPath());
        }

        private TypeMirror type(Tree tree) {
            return trees.getTypeMirror(new TreePath(getCurrentPath(), tree));
        }

        private Object constant(ExpressionTree tree) {
            if (tree instanceof LiteralTree literal) {
                return literal.getValue();
            }
            Element named = trees.getElement(new TreePath(getCurrentPath(), tree));
            return named instanceof VariableElement variable ? variable.getConstantValue() : null;
        }

        @Override
        public Void visitClass(ClassTree tree, String in) {
            TypeElement one = (TypeElement) element();
            due(one.getKind() == ElementKind.CLASS, 2, one + " is a class");
            TypeElement over = (TypeElement) ((javax.lang.model.type.DeclaredType) one.getSuperclass()).asElement();
            above.put(one.getSimpleName().toString(), over.getSimpleName().toString());
            return super.visitClass(tree, null);
        }

        @Override
        public Void visitMethod(MethodTree tree, String in) {
            ExecutableElement one = (ExecutableElement) element();
            String name = one.getEnclosingElement().getSimpleName() + "." + one.getSimpleName();
            due(methods.put(name, one) == null, 1, name + " is there once");
            due(tree.getParameters().size() <= 7, 11, name + " takes seven parameters at most");
            due(tree.getThrows().isEmpty(), 6, name + " throws nothing");
            calls.put(name, new ArrayList<>());
            return super.visitMethod(tree, name);
        }

        @Override
        public Void visitMethodInvocation(MethodInvocationTree tree, String in) {
            ExecutableElement one = (ExecutableElement) element();
            String owner = one.getEnclosingElement().getSimpleName().toString();
            String name = one.getSimpleName().toString();
            if (one.getEnclosingElement().toString().startsWith("java.")) {
                due(LIBRARY.contains(owner + "." + name), 4, owner + "." + name + " is of the library told");
            } else if (in != null) {
                boolean isSuper = tree.getMethodSelect() instanceof MemberSelectTree select
                    && select.getExpression() instanceof IdentifierTree before && before.getName().contentEquals("super");
                boolean isOwn = one.getModifiers().contains(Modifier.PRIVATE) || one.getModifiers().contains(Modifier.STATIC);
                calls.get(in).add(new Call(owner, name, isSuper || isOwn || !KINDS.contains(owner)));
            }
            return super.visitMethodInvocation(tree, in);
        }

        @Override
        public Void visitNewClass(NewClassTree tree, String in) {
            due(in == null || in.endsWith("<init>"), 12, in + " makes no object");
            due(tree.getClassBody() == null, 2, in + " has no class without a name");
            return super.visitNewClass(tree, in);
        }

        @Override
        public Void visitNewArray(NewArrayTree tree, String in) {
            due(in == null || in.endsWith("<init>"), 12, in + " makes no array");
            due(tree.getDimensions().size() <= 2, 3, in + " has rows of two dimensions at most");
            return super.visitNewArray(tree, in);
        }

        private void divided(ExpressionTree by, String in) {
            Object n = constant(by);
            due(n instanceof Integer i ? i != 0 : DIVISORS.contains(in + " " + by), 7, in + " divides by " + by);
        }

        @Override
        public Void visitBinary(BinaryTree tree, String in) {
            if (tree.getKind() == Tree.Kind.DIVIDE || tree.getKind() == Tree.Kind.REMAINDER) {
                divided(tree.getRightOperand(), in);
            }
            boolean isText = tree.getKind() == Tree.Kind.PLUS && !type(tree).getKind().isPrimitive();
            due(!isText, 10, in + " joins no texts by +");
            return super.visitBinary(tree, in);
        }

        @Override
        public Void visitCompoundAssignment(CompoundAssignmentTree tree, String in) {
            due(tree.getKind() != Tree.Kind.DIVIDE_ASSIGNMENT && tree.getKind() != Tree.Kind.REMAINDER_ASSIGNMENT, 7,
                in + " divides by " + tree.getExpression());
            due(type(tree.getVariable()).getKind().isPrimitive(), 10, in + " joins no texts by +=");
            return super.visitCompoundAssignment(tree, in);
        }

        @Override
        public Void visitTypeCast(TypeCastTree tree, String in) {
            due(type(tree.getType()).getKind().isPrimitive(), 6, in + " casts among numbers alone");
            return super.visitTypeCast(tree, in);
        }

        @Override
        public Void visitInstanceOf(InstanceOfTree tree, String in) {
            due(KINDS.contains(tree.getType().toString()), 6, in + " asks for a KIND: " + tree);
            return super.visitInstanceOf(tree, in);
        }

        @Override
        public Void visitVariable(VariableTree tree, String in) {
            if (element().getModifiers().contains(Modifier.STATIC)) {
                due(((VariableElement) element()).getConstantValue() != null, 5, tree + " is a constant");
            }
            return super.visitVariable(tree, in);
        }

        @Override
        public Void visitForLoop(ForLoopTree tree, String in) {
            String all = in + ": " + tree.toString().split("\n")[0];
            boolean isOne = tree.getInitializer().size() == 1 && tree.getUpdate().size() == 1
                && tree.getInitializer().get(0) instanceof VariableTree;
            due(isOne, 9, "one counter in " + all);
            if (isOne) {
                String counter = ((VariableTree) tree.getInitializer().get(0)).getName().toString();
                String step = tree.getUpdate().get(0).getExpression().toString();
                boolean isUp = step.equals(counter + "++");
                due(isUp || step.equals(counter + "--"), 9, "the counter goes on in " + all);
                due(isBounded(tree.getCondition(), counter, isUp), 9, "the counter has a bound in " + all);
                due(!isSet(tree.getStatement(), counter), 9, "the counter is left alone in " + all);
            }
            return super.visitForLoop(tree, in);
        }

        private boolean isBounded(ExpressionTree condition, String counter, boolean isUp) {
            if (!(condition instanceof BinaryTree tree)) {
                return false;
            }
            if (tree.getKind() == Tree.Kind.CONDITIONAL_AND) {
                return isBounded(tree.getLeftOperand(), counter, isUp) || isBounded(tree.getRightOperand(), counter, isUp);
            }
            List<Tree.Kind> kinds = isUp ? List.of(Tree.Kind.LESS_THAN, Tree.Kind.LESS_THAN_EQUAL)
                : List.of(Tree.Kind.GREATER_THAN, Tree.Kind.GREATER_THAN_EQUAL);
            return kinds.contains(tree.getKind()) && tree.getLeftOperand().toString().equals(counter);
        }

        private boolean isSet(Tree body, String counter) {
            return body.toString().matches("(?s).*\\b" + counter + "( [-+*/%&|^]?= |\\+\\+|--).*");
        }

        @Override
        public Void visitThrow(ThrowTree tree, String in) {
            due(false, 6, in + " throws");
            return null;
        }

        @Override
        public Void visitTry(TryTree tree, String in) {
            due(false, 6, in + " tries");
            return null;
        }

        @Override
        public Void visitWhileLoop(WhileLoopTree tree, String in) {
            due(false, 9, in + " has a loop without a counter");
            return null;
        }

        @Override
        public Void visitDoWhileLoop(DoWhileLoopTree tree, String in) {
            due(false, 9, in + " has a loop without a counter");
            return null;
        }

        @Override
        public Void visitLambdaExpression(LambdaExpressionTree tree, String in) {
            due(false, 2, in + " has a lambda");
            return null;
        }

        @Override
        public Void visitMemberReference(MemberReferenceTree tree, String in) {
            due(false, 2, in + " has a method reference");
            return null;
        }
    }

    /** The method that runs, if the PIGEON asked is of this KIND. */
    private String running(Call call, String kind) {
        String owner = call.isBound || !isUnder(kind, call.owner) ? call.owner : kind;
        for (int i = 0; i < 9 && owner != null; i++) {
            if (methods.containsKey(owner + "." + call.name)) {
                return owner + "." + call.name;
            }
            owner = above.get(owner);
        }
        return null;
    }

    private boolean isUnder(String kind, String other) {
        String one = kind;
        for (int i = 0; i < 9 && one != null; i++) {
            if (one.equals(other)) {
                return true;
            }
            one = above.get(one);
        }
        return false;
    }

    /** The longest way of calls from this method on, none of them twice; whatever comes back to one is recursion. */
    private List<String> longest(String from, String kind, List<String> way, Set<String> recursive) {
        List<String> best = way;
        for (Call call : calls.get(from)) {
            String next = running(call, kind);
            if (next != null && way.contains(next)) {
                recursive.addAll(way.subList(way.indexOf(next), way.size()));
            } else if (next != null) {
                List<String> longer = new ArrayList<>(way);
                longer.add(next);
                longer = longest(next, kind, longer, recursive);
                best = longer.size() > best.size() ? longer : best;
            }
        }
        return best;
    }

    private void depths() {
        Set<String> recursive = new TreeSet<>();
        int deepest = 0;
        for (String kind : KINDS) {
            for (String from : new ArrayList<>(methods.keySet())) {
                boolean isOpen = methods.get(from).getModifiers().contains(Modifier.PUBLIC);
                if (isOpen) {
                    List<String> way = longest(from, kind, List.of(from), recursive);
                    deepest = Math.max(deepest, way.size());
                    due(way.size() <= DEEPEST, 11, "calls go eight deep at most: " + kind + ": " + way);
                }
            }
        }
        due(deepest > 5, 11, "calls are seen at all");
        due(recursive.equals(RECURSIVE), 8, "those that call one another: " + recursive);
        for (String name : RECURSIVE) {
            ExecutableElement one = methods.get(name);
            due(one != null && one.getModifiers().contains(Modifier.PRIVATE) && one.getParameters().toString().equals("depth"), 8,
                name + " is private and carries the depth");
        }
    }

    /** Each method inside is called by another: none stands there for nothing. */
    private void used() {
        Set<String> all = new HashSet<>();
        for (List<Call> each : calls.values()) {
            for (Call call : each) {
                for (String kind : KINDS) {
                    all.add(running(call, kind));
                }
            }
        }
        for (String name : methods.keySet()) {
            boolean isOpen = methods.get(name).getModifiers().contains(Modifier.PUBLIC);
            due(isOpen || name.endsWith("<init>") || all.contains(name), 11, name + " is called");
        }
    }

    public static void main(String[] args) throws Exception {
        JavaCompiler javac = ToolProvider.getSystemJavaCompiler();
        StandardJavaFileManager files = javac.getStandardFileManager(null, null, null);
        JavacTask task = (JavacTask) javac.getTask(null, files, null, List.of("-proc:none"), null,
            files.getJavaFileObjects(Path.of("src/main/java/GoodNewsPigeons.java")));
        List<CompilationUnitTree> units = new ArrayList<>();
        task.parse().forEach(units::add);
        task.analyze();
        RulesTest test = new RulesTest(Trees.instance(task));
        for (CompilationUnitTree unit : units) {
            due(unit.getImports().isEmpty() && unit.getPackage() == null, 4, "nothing is imported, there is no package");
            test.new Reader().scan(unit, null);
        }
        due(test.above.size() <= 12, 11, "the file has some twelve classes: " + test.above.keySet());
        test.depths();
        test.used();
        System.out.println(wrong == 0 ? "all is as told" : wrong + " things are not as told");
        if (wrong != 0) {
            System.exit(1);
        }
    }
}
