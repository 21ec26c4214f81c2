import com.sun.source.tree.ArrayAccessTree;
import com.sun.source.tree.ArrayTypeTree;
import com.sun.source.tree.AssertTree;
import com.sun.source.tree.AssignmentTree;
import com.sun.source.tree.BinaryTree;
import com.sun.source.tree.BlockTree;
import com.sun.source.tree.ClassTree;
import com.sun.source.tree.CompilationUnitTree;
import com.sun.source.tree.CompoundAssignmentTree;
import com.sun.source.tree.ExpressionTree;
import com.sun.source.tree.ImportTree;
import com.sun.source.tree.LambdaExpressionTree;
import com.sun.source.tree.LineMap;
import com.sun.source.tree.MemberReferenceTree;
import com.sun.source.tree.MethodInvocationTree;
import com.sun.source.tree.MethodTree;
import com.sun.source.tree.NewArrayTree;
import com.sun.source.tree.NewClassTree;
import com.sun.source.tree.SynchronizedTree;
import com.sun.source.tree.ThrowTree;
import com.sun.source.tree.Tree;
import com.sun.source.tree.TryTree;
import com.sun.source.tree.TypeCastTree;
import com.sun.source.tree.UnaryTree;
import com.sun.source.tree.VariableTree;
import com.sun.source.util.JavacTask;
import com.sun.source.util.SourcePositions;
import com.sun.source.util.TreePath;
import com.sun.source.util.TreePathScanner;
import com.sun.source.util.Trees;
import java.io.File;
import java.io.IOException;
import java.util.ArrayList;
import java.util.HashMap;
import java.util.HashSet;
import java.util.LinkedHashMap;
import java.util.LinkedHashSet;
import java.util.List;
import java.util.Map;
import java.util.Set;
import java.util.TreeSet;
import javax.lang.model.element.Element;
import javax.lang.model.element.ElementKind;
import javax.lang.model.element.ExecutableElement;
import javax.lang.model.element.Modifier;
import javax.lang.model.element.TypeElement;
import javax.lang.model.element.VariableElement;
import javax.lang.model.type.ArrayType;
import javax.lang.model.type.DeclaredType;
import javax.lang.model.type.TypeKind;
import javax.lang.model.type.TypeMirror;
import javax.tools.JavaCompiler;
import javax.tools.StandardJavaFileManager;
import javax.tools.ToolProvider;

/**
 * The rules of ../shared/LANGUAGE.md that can be read off the program's text: the compiler's own
 * tree of it is gone through. What is told for each fault: the rule's number and the line.
 */
public final class LanguageTest {
    private static final Set<String> FACE = Set.of("NONE", "BAD", "STATE", "FULL", "NO", "<init>(int)", "dish(int,int,int)",
        "price(int,int)", "lay(int)", "plate(int,int)", "at(int)", "gone(int)", "seat(int)", "guest(int,int,int)",
        "seatTold(int,int)", "liking(int,int)", "pays(int,int)", "putBack(int)", "feed(int,long)", "text()", "force(int)",
        "says(int,int,int)", "tick(int)", "order(int,int)", "lane(int)", "empties(int,int)", "waste(int)",
        "ahead(int,int,int)", "worth(int,int)", "piece(int,int)", "cut(int,int)", "count(int)", "sheet(int,int,int)",
        "cell(int,int,int)", "lays(int,int,int,int)", "taken(int,int)");
    private static final Set<String> LONGS = Set.of("NO", "liking(int,int)", "says(int,int,int)", "worth(int,int)");

    private static final Set<String> IMPORTS = Set.of("java.util.Arrays", "java.util.ArrayList", "java.util.List", "java.util.Iterator");
    private static final Set<String> LIBRARY = Set.of(
        "String.length", "String.charAt", "String.isEmpty", "String.equals", "String.indexOf", "String.substring",
        "String.toCharArray", "StringBuilder.append", "StringBuilder.charAt", "StringBuilder.setCharAt",
        "StringBuilder.setLength", "StringBuilder.deleteCharAt", "StringBuilder.reverse", "StringBuilder.length",
        "StringBuilder.toString", "ArrayList.add", "ArrayList.get", "ArrayList.set", "ArrayList.remove", "ArrayList.size",
        "ArrayList.isEmpty", "ArrayList.clear", "List.add", "List.get", "List.set", "List.remove", "List.size",
        "List.isEmpty", "List.clear", "List.of", "System.arraycopy", "Arrays.copyOf", "Arrays.copyOfRange", "Arrays.fill",
        "Math.max", "Math.min", "Math.abs", "Math.floorDiv", "Math.floorMod", "Integer.compare", "Integer.bitCount",
        "Long.compare", "Long.bitCount", "Object.<init>");
    private static final Set<String> MADE = Set.of("StringBuilder", "ArrayList", "String");
    private static final int MOST_CLASSES = 12, MOST_FIELDS = 20, MOST_LINES = 60, MOST_PARAMETERS = 7, MOST_DEEP = 8;

    private final CompilationUnitTree unit;
    private final Trees trees;
    private final SourcePositions positions;
    private final LineMap lines;
    private final Set<String> classes = new TreeSet<>();
    private final Set<ExecutableElement> methods = new LinkedHashSet<>();
    private final Map<ExecutableElement, Set<ExecutableElement>> calls = new LinkedHashMap<>();

    private LanguageTest(CompilationUnitTree unit, Trees trees) {
        this.unit = unit;
        this.trees = trees;
        positions = trees.getSourcePositions();
        lines = unit.getLineMap();
    }

    public static void main(String[] args) throws IOException {
        String file = args.length > 0 ? args[0] : "src/main/java/PlateRound.java";
        JavaCompiler compiler = ToolProvider.getSystemJavaCompiler();
        try (StandardJavaFileManager files = compiler.getStandardFileManager(null, null, null)) {
            JavacTask task = (JavacTask) compiler.getTask(null, files, null, List.of("-proc:none", "-encoding", "UTF-8"),
                null, files.getJavaFileObjects(new File(file)));
            List<CompilationUnitTree> parsed = new ArrayList<>();
            task.parse().forEach(parsed::add);
            task.analyze();
            for (CompilationUnitTree unit : parsed) {
                new LanguageTest(unit, Trees.instance(task)).check();
            }
            Due.is("files in " + file, parsed.size(), 1);
        }
        Due.end();
    }

    private void check() {
        Due.is("a package line", unit.getPackageName() == null ? 0 : 1, 0);
        Due.is("classes beside the one", unit.getTypeDecls().size(), 1);
        new Walk().scan(unit, null);
        Due.is("rule 11: twelve classes at most", Math.max(classes.size(), MOST_CLASSES), MOST_CLASSES);
        checkCalls();
    }

    private void refuse(boolean bad, int rule, Tree tree, String words) {
        if (bad) {
            long line = lines.getLineNumber(positions.getStartPosition(unit, tree));
            Due.is("rule " + rule + ", line " + line + ": " + words, 1, 0);
        }
    }

    private static String nameOf(ExecutableElement method) {
        return method.getEnclosingElement().getSimpleName() + "." + method;
    }

    // ---- calls: how deep they go, and which ones call themselves

    private Set<ExecutableElement> reached(ExecutableElement from) {
        Set<ExecutableElement> all = new HashSet<>();
        List<ExecutableElement> open = new ArrayList<>(calls.getOrDefault(from, Set.of()));
        while (!open.isEmpty()) {
            ExecutableElement next = open.remove(open.size() - 1);
            if (all.add(next)) {
                open.addAll(calls.getOrDefault(next, Set.of()));
            }
        }
        return all;
    }

    private void checkCalls() {
        Map<ExecutableElement, Set<ExecutableElement>> groups = new HashMap<>();
        for (ExecutableElement method : methods) {
            Set<ExecutableElement> group = new HashSet<>();
            for (ExecutableElement other : reached(method)) {
                if (reached(other).contains(method)) {
                    group.add(other);
                }
            }
            groups.put(method, group);
            boolean isPrivate = method.getModifiers().contains(Modifier.PRIVATE);
            boolean isStatic = method.getModifiers().contains(Modifier.STATIC);
            Due.is("rule 8: " + nameOf(method) + " calls itself, and isn't private", group.isEmpty() || isPrivate ? 0 : 1, 0);
            Due.is("rule 8: " + nameOf(method) + " alone calls itself, and isn't static", group.size() != 1 || isStatic ? 0 : 1, 0);
        }
        for (ExecutableElement method : methods) {
            int deep = depth(method, groups, new HashMap<>());
            Due.is("rule 11: how deep calls of " + nameOf(method) + " go, above eight", Math.max(deep, MOST_DEEP), MOST_DEEP);
        }
    }

    // Methods that call one another count as one: they are a recursion.
    private int depth(ExecutableElement method, Map<ExecutableElement, Set<ExecutableElement>> groups, Map<ExecutableElement, Integer> known) {
        Integer was = known.get(method);
        if (was != null) {
            return was;
        }
        Set<ExecutableElement> group = new HashSet<>(groups.getOrDefault(method, Set.of()));
        group.add(method);
        int deepest = 0;
        for (ExecutableElement member : group) {
            for (ExecutableElement next : calls.getOrDefault(member, Set.of())) {
                if (!group.contains(next)) {
                    deepest = Math.max(deepest, depth(next, groups, known));
                }
            }
        }
        known.put(method, deepest + 1);
        return deepest + 1;
    }

    // ---- the tree

    private final class Walk extends TreePathScanner<Void, Void> {
        private ExecutableElement within;

        private Element here() {
            return trees.getElement(getCurrentPath());
        }

        @Override
        public Void visitImport(ImportTree tree, Void none) {
            refuse(tree.isStatic() || !IMPORTS.contains(tree.getQualifiedIdentifier().toString()), 4, tree, "an import");
            return null;
        }

        @Override
        public Void visitClass(ClassTree tree, Void none) {
            Element element = here();
            boolean outer = element.getEnclosingElement().getKind() == ElementKind.PACKAGE;
            Set<Modifier> are = element.getModifiers();
            classes.add(element.toString());
            if (outer) {
                refuse(!element.getSimpleName().contentEquals("PlateRound"), 1, tree, "another class");
                refuse(!are.contains(Modifier.PUBLIC) || !are.contains(Modifier.FINAL), 1, tree, "it isn't public and final");
                checkFace(tree, (TypeElement) element);
            } else {
                refuse(element.getEnclosingElement().getKind() == ElementKind.METHOD, 2, tree, "a local class");
                refuse(!are.contains(Modifier.STATIC), 2, tree, "a class inside that isn't static");
                refuse(are.contains(Modifier.PUBLIC) || are.contains(Modifier.PROTECTED), 1, tree, "a class inside for all");
            }
            int fields = 0;
            for (Element member : element.getEnclosedElements()) {
                fields += member.getKind() == ElementKind.FIELD && !member.getModifiers().contains(Modifier.STATIC) ? 1 : 0;
            }
            refuse(fields > MOST_FIELDS, 11, tree, fields + " fields");
            return super.visitClass(tree, none);
        }

        private void checkFace(ClassTree tree, TypeElement element) {
            Set<String> seen = new HashSet<>();
            for (Element member : element.getEnclosedElements()) {
                if (member instanceof TypeElement || member.getModifiers().contains(Modifier.PRIVATE)) {
                    continue;
                }
                boolean field = member.getKind() == ElementKind.FIELD;
                String name = member.getKind() == ElementKind.CONSTRUCTOR ? member.toString().replace("PlateRound(", "<init>(") : member.toString();
                TypeMirror type = field ? member.asType() : ((ExecutableElement) member).getReturnType();
                seen.add(name);
                refuse(!FACE.contains(name), 1, tree, "a member that the document has not: " + name);
                refuse(!member.getModifiers().contains(Modifier.PUBLIC), 1, tree, "not public: " + name);
                refuse(field == !member.getModifiers().contains(Modifier.STATIC), 1, tree, "static or not: " + name);
                TypeKind due = LONGS.contains(name) ? TypeKind.LONG : name.startsWith("<init>") ? TypeKind.VOID : TypeKind.INT;
                refuse(type.getKind() != due, 1, tree, "another type: " + name);
            }
            refuse(!seen.equals(FACE), 1, tree, "a member is missing: " + seen.size() + " of " + FACE.size());
        }

        @Override
        public Void visitMethod(MethodTree tree, Void none) {
            ExecutableElement before = within;
            within = (ExecutableElement) here();
            methods.add(within);
            String name = tree.getName().toString();
            boolean isPrivate = within.getModifiers().contains(Modifier.PRIVATE);
            for (String known : FACE) {
                refuse(isPrivate && known.startsWith(name + "(") && !name.equals("<init>"), 1, tree, "a private method named " + name);
            }
            refuse(Set.of("equals", "hashCode", "toString").contains(name), 6, tree, "a method " + name);
            refuse(tree.getParameters().size() > MOST_PARAMETERS, 11, tree, "more than seven parameters");
            refuse(!tree.getThrows().isEmpty(), 6, tree, "throws");
            checkType(within.getReturnType(), tree);
            long first = lines.getLineNumber(positions.getStartPosition(unit, tree));
            long end = positions.getEndPosition(unit, tree);
            long last = end < 0 ? first : lines.getLineNumber(end);
            refuse(last - first + 1 > MOST_LINES, 11, tree, "more than sixty lines");
            super.visitMethod(tree, none);
            within = before;
            return null;
        }

        @Override
        public Void visitBlock(BlockTree tree, Void none) {
            boolean initialiser = getCurrentPath().getParentPath().getLeaf() instanceof ClassTree;
            refuse(initialiser && tree.isStatic(), 5, tree, "a static initialiser");
            return super.visitBlock(tree, none);
        }

        @Override
        public Void visitVariable(VariableTree tree, Void none) {
            Element element = here();
            checkType(element.asType(), tree);
            if (element.getKind() == ElementKind.FIELD && element.getModifiers().contains(Modifier.STATIC)) {
                refuse(!element.getModifiers().contains(Modifier.FINAL), 5, tree, "a static field that isn't final");
                refuse(tree.getInitializer() == null, 5, tree, "a static field without an initialiser");
                boolean row = element.asType().getKind() == TypeKind.ARRAY;
                boolean written = tree.getInitializer() instanceof NewArrayTree
                    && ((NewArrayTree) tree.getInitializer()).getInitializers() != null;
                refuse(row && !written, 5, tree, "a static row that isn't written out");
                refuse(!row && ((VariableElement) element).getConstantValue() == null, 5, tree, "no constant");
            }
            return super.visitVariable(tree, none);
        }

        private void checkType(TypeMirror type, Tree tree) {
            TypeMirror item = type;
            int dimensions = 0;
            while (item instanceof ArrayType) {
                item = ((ArrayType) item).getComponentType();
                dimensions++;
            }
            refuse(dimensions > 2 || dimensions == 2 && !item.getKind().isPrimitive(), 3, tree, "a row of rows");
            if (item instanceof DeclaredType) {
                String name = ((DeclaredType) item).asElement().toString();
                boolean known = name.startsWith("PlateRound") || name.equals("java.lang.String") || name.equals("java.lang.StringBuilder")
                    || name.equals("java.lang.Integer") || name.equals("java.util.ArrayList") || name.equals("java.util.List");
                refuse(!known, 3, tree, "a type " + name);
            }
        }

        @Override
        public Void visitMethodInvocation(MethodInvocationTree tree, Void none) {
            called((ExecutableElement) trees.getElement(getCurrentPath()), tree);
            return super.visitMethodInvocation(tree, none);
        }

        @Override
        public Void visitNewClass(NewClassTree tree, Void none) {
            refuse(tree.getClassBody() != null, 2, tree, "a class without a name");
            called((ExecutableElement) trees.getElement(getCurrentPath()), tree);
            return super.visitNewClass(tree, none);
        }

        private void called(ExecutableElement method, Tree tree) {
            String owner = method.getEnclosingElement().toString();
            if (owner.startsWith("PlateRound")) {
                if (within != null) {
                    calls.computeIfAbsent(within, key -> new LinkedHashSet<>()).add(method);
                }
                return;
            }
            String type = method.getEnclosingElement().getSimpleName().toString();
            String name = type + "." + method.getSimpleName();
            boolean fresh = method.getKind() == ElementKind.CONSTRUCTOR && MADE.contains(type);
            boolean copy = type.equals("Array") && name.endsWith(".clone");
            refuse(!LIBRARY.contains(name) && !fresh && !copy, 4, tree, "the library's " + name);
        }

        @Override
        public Void visitAssignment(AssignmentTree tree, Void none) {
            checkStays(tree.getVariable());
            return super.visitAssignment(tree, none);
        }

        @Override
        public Void visitCompoundAssignment(CompoundAssignmentTree tree, Void none) {
            checkStays(tree.getVariable());
            return super.visitCompoundAssignment(tree, none);
        }

        @Override
        public Void visitUnary(UnaryTree tree, Void none) {
            Tree.Kind kind = tree.getKind();
            if (kind.name().contains("CREMENT")) {
                checkStays(tree.getExpression());
            }
            return super.visitUnary(tree, none);
        }

        private void checkStays(ExpressionTree target) {
            if (target instanceof ArrayAccessTree) {
                ExpressionTree row = ((ArrayAccessTree) target).getExpression();
                Element element = trees.getElement(new TreePath(getCurrentPath(), row));
                refuse(element != null && element.getModifiers().contains(Modifier.STATIC), 5, target, "a static row is changed");
            }
        }

        @Override
        public Void visitTypeCast(TypeCastTree tree, Void none) {
            TypeMirror type = trees.getTypeMirror(new TreePath(getCurrentPath(), tree.getType()));
            refuse(type == null || !type.getKind().isPrimitive(), 6, tree, "a cast of an object: look whether a test makes it safe");
            return super.visitTypeCast(tree, none);
        }

        @Override
        public Void visitBinary(BinaryTree tree, Void none) {
            boolean same = tree.getKind() == Tree.Kind.EQUAL_TO || tree.getKind() == Tree.Kind.NOT_EQUAL_TO;
            boolean text = isText(tree.getLeftOperand()) || isText(tree.getRightOperand());
            refuse(same && text, 6, tree, "Strings set side by side by a sign");
            refuse(tree.getKind() == Tree.Kind.PLUS && text, 10, tree, "texts joined by +");
            return super.visitBinary(tree, none);
        }

        private boolean isText(ExpressionTree tree) {
            TypeMirror type = trees.getTypeMirror(new TreePath(getCurrentPath(), tree));
            return type != null && type.toString().equals("java.lang.String");
        }

        @Override
        public Void visitArrayType(ArrayTypeTree tree, Void none) {
            checkType(trees.getTypeMirror(getCurrentPath()), tree);
            return super.visitArrayType(tree, none);
        }

        @Override
        public Void visitThrow(ThrowTree tree, Void none) {
            refuse(true, 6, tree, "throw");
            return super.visitThrow(tree, none);
        }

        @Override
        public Void visitTry(TryTree tree, Void none) {
            refuse(true, 6, tree, "try");
            return super.visitTry(tree, none);
        }

        @Override
        public Void visitSynchronized(SynchronizedTree tree, Void none) {
            refuse(true, 6, tree, "synchronized");
            return super.visitSynchronized(tree, none);
        }

        @Override
        public Void visitAssert(AssertTree tree, Void none) {
            refuse(true, 6, tree, "assert");
            return super.visitAssert(tree, none);
        }

        @Override
        public Void visitLambdaExpression(LambdaExpressionTree tree, Void none) {
            refuse(true, 2, tree, "a lambda");
            return super.visitLambdaExpression(tree, none);
        }

        @Override
        public Void visitMemberReference(MemberReferenceTree tree, Void none) {
            refuse(true, 2, tree, "a method reference");
            return super.visitMemberReference(tree, none);
        }
    }
}
