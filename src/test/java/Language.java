import com.sun.source.tree.AssertTree;
import com.sun.source.tree.BinaryTree;
import com.sun.source.tree.BlockTree;
import com.sun.source.tree.ClassTree;
import com.sun.source.tree.CompilationUnitTree;
import com.sun.source.tree.CompoundAssignmentTree;
import com.sun.source.tree.ExpressionTree;
import com.sun.source.tree.ImportTree;
import com.sun.source.tree.InstanceOfTree;
import com.sun.source.tree.LambdaExpressionTree;
import com.sun.source.tree.LiteralTree;
import com.sun.source.tree.MemberReferenceTree;
import com.sun.source.tree.MethodInvocationTree;
import com.sun.source.tree.MethodTree;
import com.sun.source.tree.NewArrayTree;
import com.sun.source.tree.NewClassTree;
import com.sun.source.tree.SynchronizedTree;
import com.sun.source.tree.ThrowTree;
import com.sun.source.tree.Tree;
import com.sun.source.tree.TryTree;
import com.sun.source.tree.TypeCastTree;
import com.sun.source.tree.VariableTree;
import com.sun.source.util.JavacTask;
import com.sun.source.util.TreePath;
import com.sun.source.util.TreePathScanner;
import com.sun.source.util.Trees;
import java.net.URI;
import java.nio.file.Files;
import java.nio.file.Path;
import java.util.ArrayList;
import java.util.HashMap;
import java.util.LinkedHashMap;
import java.util.LinkedHashSet;
import java.util.List;
import java.util.Map;
import java.util.Set;
import java.util.TreeMap;
import javax.lang.model.element.Element;
import javax.lang.model.element.ElementKind;
import javax.lang.model.element.ExecutableElement;
import javax.lang.model.element.Modifier;
import javax.lang.model.element.TypeElement;
import javax.lang.model.element.VariableElement;
import javax.lang.model.type.ArrayType;
import javax.lang.model.type.TypeKind;
import javax.lang.model.type.TypeMirror;
import javax.tools.JavaCompiler;
import javax.tools.JavaFileObject;
import javax.tools.SimpleJavaFileObject;
import javax.tools.StandardJavaFileManager;
import javax.tools.ToolProvider;

/**
 * Reads the program as the compiler does and looks for what LANGUAGE.md rules out. Before that it
 * reads small programs that each break one rule, to see that the looking finds them.
 */
public final class Language {
    private static final int MOST_CALLS_DEEP = 8;
    private static final int MOST_LINES = 60;
    private static final int MOST_PARAMETERS = 7;
    private static final int MOST_CLASSES = 12;
    private static final int MOST_FIELDS = 20;

    private static final Set<String> LIBRARY_TYPES = Set.of("java.lang.String", "java.lang.StringBuilder",
            "java.lang.Integer", "java.util.ArrayList", "java.util.List");
    private static final Map<String, Set<String>> LIBRARY = Map.of(
            "java.lang.String", Set.of("length", "charAt", "isEmpty", "equals", "indexOf", "substring", "toCharArray"),
            "java.lang.StringBuilder", Set.of("append", "charAt", "setCharAt", "setLength", "deleteCharAt",
                    "reverse", "length", "toString"),
            "java.util.ArrayList", Set.of("add", "get", "set", "remove", "size", "isEmpty", "clear"),
            "java.util.List", Set.of("add", "get", "set", "remove", "size", "isEmpty", "clear", "of"),
            "java.lang.System", Set.of("arraycopy"),
            "java.util.Arrays", Set.of("copyOf", "copyOfRange", "fill"),
            "java.lang.Math", Set.of("max", "min", "abs", "floorDiv", "floorMod"),
            "java.lang.Integer", Set.of("max", "min", "compare", "bitCount", "signum"),
            "java.lang.Long", Set.of("max", "min", "compare", "bitCount", "signum"));

    /** What one source text breaks, each a rule's number and a sentence. */
    private static final class Reading extends TreePathScanner<Void, Void> {
        final Set<String> broken = new LinkedHashSet<>();
        final Map<ExecutableElement, Set<ExecutableElement>> calls = new LinkedHashMap<>();
        final List<TypeElement> classes = new ArrayList<>();
        final Trees trees;
        final JavacTask task;
        final CompilationUnitTree unit;

        Reading(JavacTask task, CompilationUnitTree unit) {
            this.task = task;
            this.trees = Trees.instance(task);
            this.unit = unit;
        }

        void breaks(int rule, String what) {
            broken.add("rule " + rule + ": " + what);
        }

        void breaks(int rule, String what, Tree where) {
            long position = trees.getSourcePositions().getStartPosition(unit, where);
            breaks(rule, what + " in line " + unit.getLineMap().getLineNumber(position));
        }

        Element element() {
            return trees.getElement(getCurrentPath());
        }

        /** The method or constructor that the present place stands in; null in a field's initialiser. */
        ExecutableElement method() {
            for (TreePath p = getCurrentPath(); p != null; p = p.getParentPath()) {
                if (p.getLeaf() instanceof MethodTree) {
                    return (ExecutableElement) trees.getElement(p);
                }
            }
            return null;
        }

        boolean isOwn(TypeMirror type) {
            return type.getKind() == TypeKind.DECLARED && isOwn(task.getTypes().asElement(type));
        }

        boolean isOwn(Element type) {
            return type.toString().equals("PvArray") || type.toString().startsWith("PvArray.");
        }

        boolean isText(ExpressionTree of) {
            TypeMirror type = trees.getTypeMirror(new TreePath(getCurrentPath(), of));
            return type != null && type.toString().equals("java.lang.String");
        }

        boolean isAllowed(TypeMirror type) {
            if (type.getKind() == TypeKind.ARRAY) {
                TypeMirror inner = ((ArrayType) type).getComponentType();
                boolean rows = inner.getKind() == TypeKind.ARRAY
                        && ((ArrayType) inner).getComponentType().getKind().isPrimitive();
                return rows || inner.getKind().isPrimitive() || isOwn(inner);
            }
            return type.getKind().isPrimitive() || type.getKind() == TypeKind.VOID || isOwn(type)
                    || LIBRARY_TYPES.contains(task.getTypes().erasure(type).toString());
        }

        @Override
        public Void visitImport(ImportTree tree, Void none) {
            String name = tree.getQualifiedIdentifier().toString();
            if (!Set.of("java.util.ArrayList", "java.util.List", "java.util.Arrays", "java.util.Iterator").contains(name)) {
                breaks(4, "import of " + name, tree);
            }
            return null;
        }

        @Override
        public Void visitClass(ClassTree tree, Void none) {
            TypeElement type = (TypeElement) element();
            classes.add(type);
            boolean outer = type.toString().equals("PvArray");
            Tree.Kind parent = getCurrentPath().getParentPath().getLeaf().getKind();
            if (!outer && (parent != Tree.Kind.CLASS || tree.getSimpleName().isEmpty())) {
                breaks(2, "a local or anonymous class", tree);
            } else if (!outer && !type.getModifiers().contains(Modifier.STATIC)) {
                breaks(2, "an inner class that isn't static", tree);
            }
            if (outer ? !type.getModifiers().containsAll(Set.of(Modifier.PUBLIC, Modifier.FINAL))
                    : type.getModifiers().contains(Modifier.PUBLIC) || type.getModifiers().contains(Modifier.PROTECTED)) {
                breaks(1, "the visibility of " + type, tree);
            }
            int fields = 0;
            for (Tree member : tree.getMembers()) {
                if (member instanceof BlockTree block && block.isStatic()) {
                    breaks(5, "a static initialiser block", member);
                }
                if (member instanceof VariableTree field && !field.getModifiers().getFlags().contains(Modifier.STATIC)) {
                    fields++;
                }
            }
            if (fields > MOST_FIELDS) {
                breaks(11, type + " has " + fields + " fields", tree);
            }
            return super.visitClass(tree, none);
        }

        @Override
        public Void visitVariable(VariableTree tree, Void none) {
            VariableElement variable = (VariableElement) element();
            if (!isAllowed(variable.asType())) {
                breaks(3, "a " + variable.asType(), tree);
            }
            if (variable.getKind() == ElementKind.FIELD && variable.getModifiers().contains(Modifier.STATIC)) {
                checkStatic(variable, tree);
            }
            return super.visitVariable(tree, none);
        }

        void checkStatic(VariableElement field, VariableTree tree) {
            boolean row = tree.getInitializer() instanceof NewArrayTree list && list.getInitializers() != null;
            if (!field.getModifiers().contains(Modifier.FINAL) || field.getConstantValue() == null && !row) {
                breaks(5, "static state, " + field, tree);
            }
        }

        @Override
        public Void visitMethod(MethodTree tree, Void none) {
            ExecutableElement method = (ExecutableElement) element();
            calls.computeIfAbsent(method, m -> new LinkedHashSet<>());
            if (!isAllowed(method.getReturnType())) {
                breaks(3, "a " + method.getReturnType(), tree);
            }
            if (method.getParameters().size() > MOST_PARAMETERS) {
                breaks(11, method + " has too many parameters", tree);
            }
            if (!tree.getThrows().isEmpty()) {
                breaks(6, "throws", tree);
            }
            long first = unit.getLineMap().getLineNumber(trees.getSourcePositions().getStartPosition(unit, tree));
            long last = unit.getLineMap().getLineNumber(trees.getSourcePositions().getEndPosition(unit, tree));
            if (last - first + 1 > MOST_LINES) {
                breaks(11, method + " is too long", tree);
            }
            Set<String> notOwn = Set.of("equals", "hashCode", "toString", "finalize");
            if (notOwn.contains(method.getSimpleName().toString())) {
                breaks(6, "a " + method + " of its own", tree);
            }
            return super.visitMethod(tree, none);
        }

        @Override
        public Void visitMethodInvocation(MethodInvocationTree tree, Void none) {
            ExecutableElement called = (ExecutableElement) element();
            TypeElement owner = (TypeElement) called.getEnclosingElement();
            boolean superCall = called.getKind() == ElementKind.CONSTRUCTOR;
            ExecutableElement caller = method();
            if (isOwn(owner)) {
                if (caller != null && !superCall) {
                    calls.computeIfAbsent(caller, m -> new LinkedHashSet<>()).add(called);
                }
                if (caller != null && caller.getKind() == ElementKind.CONSTRUCTOR && mayBeOverridden(called)) {
                    breaks(12, "a constructor calls " + called, tree);
                }
            } else if (!superCall && !isOfLibrary(owner, called, tree)) {
                breaks(4, "a call of " + owner + "." + called, tree);
            }
            checkHandedOut(tree.getArguments(), tree);
            return super.visitMethodInvocation(tree, none);
        }

        boolean mayBeOverridden(ExecutableElement called) {
            Set<Modifier> m = called.getModifiers();
            return called.getKind() == ElementKind.METHOD && !m.contains(Modifier.STATIC)
                    && !m.contains(Modifier.PRIVATE) && !m.contains(Modifier.FINAL)
                    && !called.getEnclosingElement().getModifiers().contains(Modifier.FINAL);
        }

        boolean isOfLibrary(TypeElement owner, ExecutableElement called, MethodInvocationTree tree) {
            if (called.getSimpleName().contentEquals("clone")) {
                return tree.getArguments().isEmpty();
            }
            Set<String> names = LIBRARY.get(owner.toString());
            return names != null && names.contains(called.getSimpleName().toString());
        }

        /** In a constructor neither the object itself nor what its fields hold goes to another one. */
        void checkHandedOut(List<? extends ExpressionTree> arguments, Tree where) {
            ExecutableElement caller = method();
            if (caller == null || caller.getKind() != ElementKind.CONSTRUCTOR) {
                return;
            }
            for (ExpressionTree argument : arguments) {
                Element what = trees.getElement(new TreePath(getCurrentPath(), argument));
                boolean ownField = what != null && what.getKind() == ElementKind.FIELD
                        && !what.asType().getKind().isPrimitive();
                if (argument.toString().equals("this") || ownField) {
                    breaks(12, "a constructor hands out " + argument, where);
                }
            }
        }

        @Override
        public Void visitNewClass(NewClassTree tree, Void none) {
            TypeMirror type = trees.getTypeMirror(getCurrentPath());
            if (!isOwn(type) && !LIBRARY_TYPES.contains(task.getTypes().erasure(type).toString())) {
                breaks(4, "a new " + type, tree);
            }
            checkMaking(tree);
            checkHandedOut(tree.getArguments(), tree);
            return super.visitNewClass(tree, none);
        }

        @Override
        public Void visitNewArray(NewArrayTree tree, Void none) {
            TypeMirror type = trees.getTypeMirror(getCurrentPath());
            if (type != null && !isAllowed(type)) {
                breaks(3, "a " + type, tree);
            }
            checkMaking(tree);
            return super.visitNewArray(tree, none);
        }

        /** More than rule 12 asks: this program makes all it needs while it is made itself. */
        void checkMaking(Tree tree) {
            ExecutableElement maker = method();
            if (maker != null && maker.getKind() != ElementKind.CONSTRUCTOR) {
                breaks(12, maker + " makes an object", tree);
            }
        }

        @Override
        public Void visitBinary(BinaryTree tree, Void none) {
            boolean sameness = tree.getKind() == Tree.Kind.EQUAL_TO || tree.getKind() == Tree.Kind.NOT_EQUAL_TO;
            if (sameness && (isText(tree.getLeftOperand()) || isText(tree.getRightOperand()))) {
                breaks(6, "== of texts", tree);
            }
            if (tree.getKind() == Tree.Kind.PLUS && (isText(tree.getLeftOperand()) || isText(tree.getRightOperand()))) {
                breaks(10, "texts joined by +", tree);
            }
            if (tree.getKind() == Tree.Kind.DIVIDE || tree.getKind() == Tree.Kind.REMAINDER) {
                checkDivisor(tree.getRightOperand(), tree);
            }
            return super.visitBinary(tree, none);
        }

        @Override
        public Void visitCompoundAssignment(CompoundAssignmentTree tree, Void none) {
            if (tree.getKind() == Tree.Kind.PLUS_ASSIGNMENT && isText(tree.getVariable())) {
                breaks(10, "texts joined by +=", tree);
            }
            if (tree.getKind() == Tree.Kind.DIVIDE_ASSIGNMENT || tree.getKind() == Tree.Kind.REMAINDER_ASSIGNMENT) {
                checkDivisor(tree.getExpression(), tree);
            }
            return super.visitCompoundAssignment(tree, none);
        }

        /** A divisor is a constant, or the method compares it to 0 in a line of its own before. */
        void checkDivisor(ExpressionTree divisor, Tree where) {
            Element named = trees.getElement(new TreePath(getCurrentPath(), divisor));
            boolean constant = divisor instanceof LiteralTree number && ((Number) number.getValue()).longValue() != 0
                    || named instanceof VariableElement v && v.getConstantValue() instanceof Number n && n.longValue() != 0;
            boolean compared = false;
            for (TreePath p = getCurrentPath(); p != null && !compared; p = p.getParentPath()) {
                if (p.getLeaf() instanceof MethodTree method) {
                    String text = method.toString();
                    int use = text.indexOf(where.toString());
                    String before = use < 0 ? text : text.substring(0, use);
                    compared = before.contains("if (" + divisor + " <= 0)");
                }
            }
            if (!constant && !compared) {
                breaks(7, "a divisor that nothing tests, " + divisor, where);
            }
        }

        @Override
        public Void visitThrow(ThrowTree tree, Void none) {
            breaks(6, "throw", tree);
            return super.visitThrow(tree, none);
        }

        @Override
        public Void visitTry(TryTree tree, Void none) {
            breaks(6, "try", tree);
            return super.visitTry(tree, none);
        }

        @Override
        public Void visitSynchronized(SynchronizedTree tree, Void none) {
            breaks(6, "synchronized", tree);
            return super.visitSynchronized(tree, none);
        }

        @Override
        public Void visitAssert(AssertTree tree, Void none) {
            breaks(6, "assert", tree);
            return super.visitAssert(tree, none);
        }

        @Override
        public Void visitLambdaExpression(LambdaExpressionTree tree, Void none) {
            breaks(2, "a lambda", tree);
            return super.visitLambdaExpression(tree, none);
        }

        @Override
        public Void visitMemberReference(MemberReferenceTree tree, Void none) {
            breaks(2, "a method reference", tree);
            return super.visitMemberReference(tree, none);
        }

        @Override
        public Void visitTypeCast(TypeCastTree tree, Void none) {
            if (!trees.getTypeMirror(getCurrentPath()).getKind().isPrimitive()) {
                breaks(6, "a cast that this test can't judge", tree);
            }
            return super.visitTypeCast(tree, none);
        }

        @Override
        public Void visitInstanceOf(InstanceOfTree tree, Void none) {
            breaks(6, "an instanceof that this test can't judge", tree);
            return super.visitInstanceOf(tree, none);
        }

        void checkWhole() {
            if (classes.size() > MOST_CLASSES) {
                breaks(11, classes.size() + " classes");
            }
            Map<ExecutableElement, Integer> depths = new HashMap<>();
            for (ExecutableElement method : calls.keySet()) {
                int depth = depth(method, depths, new ArrayList<>());
                if (depth > MOST_CALLS_DEEP) {
                    breaks(11, method + " goes " + depth + " calls deep");
                }
            }
        }

        /** How deep the calls from here go, each call of a method taken for any that overrides it. */
        int depth(ExecutableElement method, Map<ExecutableElement, Integer> known, List<ExecutableElement> open) {
            if (known.containsKey(method)) {
                return known.get(method);
            }
            if (open.contains(method)) {
                breaks(8, method + " calls itself");
                return 0;
            }
            open.add(method);
            int deepest = 0;
            for (ExecutableElement called : calls.getOrDefault(method, Set.of())) {
                for (ExecutableElement target : targets(called)) {
                    deepest = Math.max(deepest, depth(target, known, open));
                }
            }
            open.remove(method);
            known.put(method, deepest + 1);
            return deepest + 1;
        }

        List<ExecutableElement> targets(ExecutableElement called) {
            List<ExecutableElement> targets = new ArrayList<>();
            for (ExecutableElement method : calls.keySet()) {
                TypeElement owner = (TypeElement) method.getEnclosingElement();
                if (method == called || task.getElements().overrides(method, called, owner)) {
                    targets.add(method);
                }
            }
            return targets;
        }
    }

    private static Reading read(String text) throws Exception {
        JavaCompiler compiler = ToolProvider.getSystemJavaCompiler();
        if (compiler == null) {
            throw new IllegalStateException("java comes without its compiler: this test needs a JDK");
        }
        JavaFileObject source = new SimpleJavaFileObject(URI.create("string:///PvArray.java"),
                JavaFileObject.Kind.SOURCE) {
            @Override
            public CharSequence getCharContent(boolean ignored) {
                return text;
            }
        };
        StandardJavaFileManager files = compiler.getStandardFileManager(null, null, null);
        JavacTask task = (JavacTask) compiler.getTask(null, files, null, List.of("-proc:none"), null, List.of(source));
        CompilationUnitTree unit = task.parse().iterator().next();
        task.analyze();
        Reading reading = new Reading(task, unit);
        reading.scan(unit, null);
        reading.checkWhole();
        return reading;
    }

    /** A small program with this inside, and the rule that it breaks. */
    private static final Map<String, Integer> BROKEN = new TreeMap<>(Map.ofEntries(
            Map.entry("class A {}", 2),
            Map.entry("public static class A {}", 1),
            Map.entry("private Runnable r() { return () -> {}; }", 2),
            Map.entry("private int f() { class L { int g; } return 1; }", 2),
            Map.entry("private Object o;", 3),
            Map.entry("private int[][][] deep;", 3),
            Map.entry("private String[] texts;", 3),
            Map.entry("private double f(double d) { return Math.sqrt(d); }", 4),
            Map.entry("private int f(int a) { return Math.addExact(a, 1); }", 4),
            Map.entry("private long f() { return System.nanoTime(); }", 4),
            Map.entry("private static int state = 0;", 5),
            Map.entry("private static final int[] ROW = new int[3];", 5),
            Map.entry("private static final int A; static { A = 1; }", 5),
            Map.entry("private int f() { throw new IllegalStateException(); }", 6),
            Map.entry("private int f() { try { return 1; } finally { f = 2; } } private int f;", 6),
            Map.entry("private boolean f(String s, String t) { return s == t; }", 6),
            Map.entry("private int f(int a, int b) { return a / b; }", 7),
            Map.entry("private int f(int a) { return a > 0 ? f(a - 1) : 0; }", 8),
            Map.entry("private String f(String s) { return s + 1; }", 10),
            Map.entry("private int f(int a, int b, int c, int d, int e, int g, int h, int i) { return a; }", 11),
            Map.entry("private int a() { return b(); } private int b() { return c(); } private int c() { return d(); }"
                    + " private int d() { return e(); } private int e() { return f(); } private int f() { return g(); }"
                    + " private int g() { return h(); } private int h() { return i(); } private int i() { return 1; }", 11),
            Map.entry("private int[] f() { return new int[1]; }", 12),
            Map.entry("private final int[] row = new int[1]; PvArray() { new A(row); }"
                    + " private static class A { private A(int[] r) {} }", 12),
            Map.entry("abstract static class A { private A() { f(); } abstract int f(); }", 12)));

    private static boolean finds(Reading reading, int rule) {
        for (String sentence : reading.broken) {
            if (sentence.startsWith("rule " + rule + ":")) {
                return true;
            }
        }
        return false;
    }

    public static void main(String[] args) throws Exception {
        int wrong = 0;
        for (Map.Entry<String, Integer> entry : BROKEN.entrySet()) {
            Reading reading = read("public final class PvArray {\n" + entry.getKey() + "\n}\n");
            if (!finds(reading, entry.getValue())) {
                wrong++;
                System.out.println("rule " + entry.getValue() + " is not found broken in: " + entry.getKey()
                        + ", but " + reading.broken);
            }
        }
        Reading program = read(Files.readString(Path.of("src/main/java/PvArray.java")));
        for (String sentence : program.broken) {
            wrong++;
            System.out.println(sentence);
        }
        System.out.println(wrong == 0 ? "the language is kept" : wrong + " faults");
        if (wrong != 0) {
            System.exit(1);
        }
    }
}
