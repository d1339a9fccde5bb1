import com.sun.source.tree.AssignmentTree;
import com.sun.source.tree.BinaryTree;
import com.sun.source.tree.ClassTree;
import com.sun.source.tree.CompilationUnitTree;
import com.sun.source.tree.CompoundAssignmentTree;
import com.sun.source.tree.DoWhileLoopTree;
import com.sun.source.tree.EnhancedForLoopTree;
import com.sun.source.tree.ForLoopTree;
import com.sun.source.tree.InstanceOfTree;
import com.sun.source.tree.LambdaExpressionTree;
import com.sun.source.tree.MemberReferenceTree;
import com.sun.source.tree.MethodInvocationTree;
import com.sun.source.tree.MethodTree;
import com.sun.source.tree.NewArrayTree;
import com.sun.source.tree.NewClassTree;
import com.sun.source.tree.Tree;
import com.sun.source.tree.TypeCastTree;
import com.sun.source.tree.VariableTree;
import com.sun.source.tree.WhileLoopTree;
import com.sun.source.util.JavacTask;
import com.sun.source.util.TreePath;
import com.sun.source.util.TreePathScanner;
import com.sun.source.util.Trees;
import java.io.File;
import java.util.ArrayDeque;
import java.util.ArrayList;
import java.util.Deque;
import java.util.HashMap;
import java.util.LinkedHashMap;
import java.util.List;
import java.util.Map;
import java.util.Set;
import java.util.TreeSet;
import javax.lang.model.element.Element;
import javax.lang.model.element.ElementKind;
import javax.lang.model.element.ExecutableElement;
import javax.lang.model.element.Modifier;
import javax.lang.model.type.TypeKind;
import javax.lang.model.type.TypeMirror;
import javax.tools.JavaCompiler;
import javax.tools.StandardJavaFileManager;
import javax.tools.ToolProvider;

/** Rules of LANGUAGE.md that are seen from the compiler's tree of the class: who calls whom, what is made, cast, looped. */
public final class TreeRulesTest {
    /** The library that rule 4 leaves, as far as the class uses it. */
    private static final Set<String> LIBRARY = Set.of("java.lang.Math.max(long,long)", "java.lang.Math.max(int,int)",
        "java.lang.Math.min(long,long)", "java.lang.Math.min(int,int)", "java.lang.Integer.bitCount(int)",
        "java.lang.String.length()", "java.lang.String.charAt(int)", "java.util.Arrays.fill(int[],int)",
        "java.lang.System.arraycopy(java.lang.Object,int,java.lang.Object,int,int)", "Array.clone()");
    private static final Set<String> TYPES = Set.of("int", "long", "byte", "char", "boolean", "int[]", "long[]", "byte[]", "boolean[]",
        "java.lang.String");
    private static final int DEEPEST = 8;
    private static final int MOST_LEVELS = 300;

    private static final Map<String, Set<String>> CALLED = new LinkedHashMap<>();
    private static final Set<String> PUBLIC = new TreeSet<>();

    private static String name(Element method) {
        return method.getEnclosingElement() + "." + method;
    }

    private static boolean isOwn(Element method) {
        return name(method).startsWith("SunriseRoof");
    }

    private static final class Walk extends TreePathScanner<Void, Void> {
        private final Trees trees;
        private String inside = "none";
        private int loops = 0;

        Walk(Trees trees) {
            this.trees = trees;
        }

        private void call(Element called) {
            if (isOwn(called)) {
                CALLED.computeIfAbsent(inside, k -> new TreeSet<>()).add(name(called));
            } else if (called.getKind() == ElementKind.METHOD) {
                Check.due(inside + " calls " + name(called), LIBRARY.contains(name(called)) ? 1 : 0, 1);
            }
        }

        private boolean isText(Tree tree) {
            TypeMirror type = trees.getTypeMirror(new TreePath(getCurrentPath(), tree));
            return type != null && type.toString().equals("java.lang.String");
        }

        @Override
        public Void visitMethod(MethodTree tree, Void none) {
            Element method = trees.getElement(getCurrentPath());
            String outer = inside;
            inside = name(method);
            CALLED.computeIfAbsent(inside, k -> new TreeSet<>());
            if (method.getModifiers().contains(Modifier.PUBLIC) && method.getKind() == ElementKind.METHOD) {
                PUBLIC.add(inside);
            }
            Check.due(inside + " throws", tree.getThrows().size(), 0);
            super.visitMethod(tree, none);
            inside = outer;
            return null;
        }

        @Override
        public Void visitMethodInvocation(MethodInvocationTree tree, Void none) {
            call(trees.getElement(getCurrentPath()));
            return super.visitMethodInvocation(tree, none);
        }

        @Override
        public Void visitNewClass(NewClassTree tree, Void none) {
            call(trees.getElement(getCurrentPath()));
            Check.due(inside + " makes an object in a loop: " + tree, loops, 0);
            Check.due(inside + " has a nameless class: " + tree, tree.getClassBody() == null ? 0 : 1, 0);
            return super.visitNewClass(tree, none);
        }

        @Override
        public Void visitNewArray(NewArrayTree tree, Void none) {
            Check.due(inside + " makes an array in a loop: " + tree, loops, 0);
            Check.due(inside + " makes an array of rows: " + tree, tree.getDimensions().size() > 1 ? 1 : 0, 0);
            return super.visitNewArray(tree, none);
        }

        @Override
        public Void visitTypeCast(TypeCastTree tree, Void none) {
            TypeKind to = trees.getTypeMirror(new TreePath(getCurrentPath(), tree.getType())).getKind();
            Check.due(inside + " casts to no number: " + tree, to == TypeKind.INT || to == TypeKind.BYTE ? 1 : 0, 1);
            return super.visitTypeCast(tree, none);
        }

        @Override
        public Void visitVariable(VariableTree tree, Void none) {
            String type = trees.getTypeMirror(new TreePath(getCurrentPath(), tree.getType())).toString();
            Check.due("a type of rule 3: " + type, TYPES.contains(type) || type.startsWith("SunriseRoof") ? 1 : 0, 1);
            return super.visitVariable(tree, none);
        }

        @Override
        public Void visitBinary(BinaryTree tree, Void none) {
            boolean texts = isText(tree.getLeftOperand()) || isText(tree.getRightOperand());
            Check.due(inside + " joins or compares texts: " + tree, texts ? 1 : 0, 0);
            if (tree.getKind() == Tree.Kind.DIVIDE || tree.getKind() == Tree.Kind.REMAINDER) {
                divisor(tree.getRightOperand());
            }
            return super.visitBinary(tree, none);
        }

        /** A divisor is a written number, a constant, or one of the two that joined() looks at first. */
        private void divisor(Tree by) {
            Element named = trees.getElement(new TreePath(getCurrentPath(), by));
            boolean constant = named != null && named.getModifiers().contains(Modifier.STATIC);
            boolean looked = inside.contains("Text.joined") && by.toString().equals("b");
            boolean written = by.getKind() == Tree.Kind.INT_LITERAL;
            Check.due(inside + " divides by " + by, constant || looked || written ? 1 : 0, 1);
        }

        @Override
        public Void visitCompoundAssignment(CompoundAssignmentTree tree, Void none) {
            boolean divides = tree.getKind() == Tree.Kind.DIVIDE_ASSIGNMENT || tree.getKind() == Tree.Kind.REMAINDER_ASSIGNMENT;
            Check.due(inside + " divides into a variable: " + tree, divides ? 1 : 0, 0);
            Check.due(inside + " joins texts: " + tree, isText(tree.getVariable()) ? 1 : 0, 0);
            return super.visitCompoundAssignment(tree, none);
        }

        @Override
        public Void visitAssignment(AssignmentTree tree, Void none) {
            Element named = trees.getElement(new TreePath(getCurrentPath(), tree.getVariable()));
            boolean isStatic = named != null && named.getModifiers().contains(Modifier.STATIC);
            Check.due(inside + " writes static state: " + tree, isStatic ? 1 : 0, 0);
            return super.visitAssignment(tree, none);
        }

        @Override
        public Void visitForLoop(ForLoopTree tree, Void none) {
            Check.due(inside + " has a loop without a bound", tree.getCondition() == null || tree.getUpdate().isEmpty() ? 1 : 0, 0);
            loops++;
            super.visitForLoop(tree, none);
            loops--;
            return null;
        }

        @Override
        public Void visitWhileLoop(WhileLoopTree tree, Void none) {
            // The one that stands counts up to the tape's length in its own two lines.
            Check.due(inside + " has a while: " + tree.getCondition(), inside.contains("Reader.split") ? 1 : 0, 1);
            loops++;
            super.visitWhileLoop(tree, none);
            loops--;
            return null;
        }

        @Override
        public Void visitDoWhileLoop(DoWhileLoopTree tree, Void none) {
            Check.due(inside + " has a do: " + tree.getCondition(), 1, 0);
            return super.visitDoWhileLoop(tree, none);
        }

        @Override
        public Void visitEnhancedForLoop(EnhancedForLoopTree tree, Void none) {
            loops++;
            super.visitEnhancedForLoop(tree, none);
            loops--;
            return null;
        }

        @Override
        public Void visitClass(ClassTree tree, Void none) {
            Check.due(tree.getSimpleName() + " stands in a method", inside.equals("none") ? 0 : 1, 0);
            Check.due(tree.getSimpleName() + " extends another", tree.getExtendsClause() == null ? 0 : 1, 0);
            return super.visitClass(tree, none);
        }

        @Override
        public Void visitLambdaExpression(LambdaExpressionTree tree, Void none) {
            Check.due(inside + " has a lambda: " + tree, 1, 0);
            return super.visitLambdaExpression(tree, none);
        }

        @Override
        public Void visitMemberReference(MemberReferenceTree tree, Void none) {
            Check.due(inside + " has a method reference: " + tree, 1, 0);
            return super.visitMemberReference(tree, none);
        }

        @Override
        public Void visitInstanceOf(InstanceOfTree tree, Void none) {
            Check.due(inside + " asks for a class: " + tree, 1, 0);
            return super.visitInstanceOf(tree, none);
        }
    }

    private static boolean reaches(String from, String to) {
        Deque<String> open = new ArrayDeque<>(CALLED.getOrDefault(from, Set.of()));
        Set<String> seen = new TreeSet<>();
        while (!open.isEmpty()) {
            String at = open.pop();
            if (at.equals(to)) {
                return true;
            }
            if (seen.add(at)) {
                open.addAll(CALLED.getOrDefault(at, Set.of()));
            }
        }
        return false;
    }

    /** The methods that call one another with this one; itself alone without recursion. */
    private static Set<String> group(String method) {
        Set<String> group = new TreeSet<>(Set.of(method));
        for (String other : CALLED.keySet()) {
            if (!other.equals(method) && reaches(method, other) && reaches(other, method)) {
                group.add(other);
            }
        }
        return group;
    }

    /** How many methods stand open at once below and with this one, each of a recursion's methods as often as told. */
    private static int depth(String method, int turns, Map<String, Integer> known) {
        if (known.containsKey(method)) {
            return known.get(method);
        }
        Set<String> group = group(method);
        int below = 0;
        for (String member : group) {
            for (String called : CALLED.getOrDefault(member, Set.of())) {
                if (!group.contains(called)) {
                    below = Math.max(below, depth(called, turns, known));
                }
            }
        }
        int depth = below + group.size() * (group.size() > 1 ? turns : 1);
        for (String member : group) {
            known.put(member, depth);
        }
        return depth;
    }

    private static void depths() {
        Check.due("methods of the face", PUBLIC.size(), 37);
        Map<String, Integer> once = new HashMap<>();
        Map<String, Integer> whole = new HashMap<>();
        List<String> recursive = new ArrayList<>();
        for (String method : CALLED.keySet()) {
            Check.due(method + " calls itself", CALLED.get(method).contains(method) ? 1 : 0, 0);
            if (group(method).size() > 1) {
                recursive.add(method);
            }
        }
        for (String method : PUBLIC) {
            int deep = depth(method, 1, once);
            Check.due(method + " goes " + deep + " deep", deep <= DEEPEST ? 1 : 0, 1);
            // Eight brackets within one another, so nine turns of the reader's recursion at most.
            Check.due(method + " leaves too many calls open", depth(method, 9, whole) < MOST_LEVELS ? 1 : 0, 1);
        }
        Check.due("methods that call one another: " + recursive, recursive.size(), 4);
    }

    public static void main(String[] args) throws Exception {
        JavaCompiler javac = ToolProvider.getSystemJavaCompiler();
        try (StandardJavaFileManager files = javac.getStandardFileManager(null, null, null)) {
            JavacTask task = (JavacTask) javac.getTask(null, files, null, List.of("-proc:none"), null,
                files.getJavaFileObjects(new File("src/main/java/SunriseRoof.java")));
            Iterable<? extends CompilationUnitTree> units = task.parse();
            task.analyze();
            Walk walk = new Walk(Trees.instance(task));
            for (CompilationUnitTree unit : units) {
                walk.scan(unit, null);
            }
        }
        depths();
        Check.finish("TreeRulesTest");
    }
}
