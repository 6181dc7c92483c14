import com.sun.source.tree.AssertTree;
import com.sun.source.tree.BinaryTree;
import com.sun.source.tree.BlockTree;
import com.sun.source.tree.CatchTree;
import com.sun.source.tree.ClassTree;
import com.sun.source.tree.CompilationUnitTree;
import com.sun.source.tree.ForLoopTree;
import com.sun.source.tree.IdentifierTree;
import com.sun.source.tree.LambdaExpressionTree;
import com.sun.source.tree.LiteralTree;
import com.sun.source.tree.MemberReferenceTree;
import com.sun.source.tree.MethodInvocationTree;
import com.sun.source.tree.MethodTree;
import com.sun.source.tree.NewClassTree;
import com.sun.source.tree.SynchronizedTree;
import com.sun.source.tree.ThrowTree;
import com.sun.source.tree.Tree;
import com.sun.source.tree.TryTree;
import com.sun.source.tree.TypeCastTree;
import com.sun.source.tree.VariableTree;
import com.sun.source.tree.WhileLoopTree;
import com.sun.source.util.JavacTask;
import com.sun.source.util.TreePath;
import com.sun.source.util.TreePathScanner;
import com.sun.source.util.Trees;
import java.io.IOException;
import java.nio.file.Path;
import java.util.ArrayDeque;
import java.util.Deque;
import java.util.HashMap;
import java.util.HashSet;
import java.util.List;
import java.util.Map;
import java.util.Set;
import java.util.TreeSet;
import javax.lang.model.element.Element;
import javax.lang.model.element.ElementKind;
import javax.lang.model.element.ExecutableElement;
import javax.lang.model.element.Modifier;
import javax.lang.model.element.TypeElement;
import javax.lang.model.type.ArrayType;
import javax.lang.model.type.TypeKind;
import javax.lang.model.type.TypeMirror;
import javax.tools.JavaCompiler;
import javax.tools.StandardJavaFileManager;
import javax.tools.ToolProvider;

/** The rules of LANGUAGE.md that the compiler's own tree of the source shows, each by its number. */
public final class LanguageTest {
    private static final Check CHECK = new Check();
    private static final int MOST_LINES = 60;
    private static final int MOST_PARAMETERS = 7;
    private static final int MOST_CLASSES = 12;
    private static final int MOST_FIELDS = 20;
    private static final int MOST_DEEP = 8;
    // Of the library what the class may call, by the class and the name.
    private static final Set<String> LIBRARY = Set.of("String.length", "String.charAt", "String.isEmpty", "String.equals", "String.indexOf",
            "String.substring", "String.toCharArray", "Math.max", "Math.min", "Math.abs", "Math.floorMod", "Math.floorDiv",
            "Integer.bitCount", "Integer.compare", "Long.compare", "System.arraycopy", "Arrays.fill", "Arrays.copyOf", "Arrays.copyOfRange");
    private static final Set<String> CLASSES = Set.of("String", "StringBuilder", "Integer");

    private static final Map<Element, Set<Element>> CALLS = new HashMap<>();
    private static Trees trees;
    private static CompilationUnitTree unit;

    public static void main(String[] args) throws IOException {
        JavaCompiler compiler = ToolProvider.getSystemJavaCompiler();
        if (compiler == null) {
            System.out.println("java knows no compiler here: the rules were not looked at");
            return;
        }
        try (StandardJavaFileManager files = compiler.getStandardFileManager(null, null, null)) {
            JavacTask task = (JavacTask) compiler.getTask(null, files, null, List.of("-proc:none", "-d", System.getProperty("java.io.tmpdir")),
                    null, files.getJavaFileObjects(Path.of("src/main/java/FootQuarrel.java")));
            unit = task.parse().iterator().next();
            task.analyze();
            trees = Trees.instance(task);
            new Rules().scan(unit, null);
        }
        depth();
        CHECK.finish();
    }

    private static void broken(int rule, String what, Tree tree) {
        long line = unit.getLineMap().getLineNumber(trees.getSourcePositions().getStartPosition(unit, tree));
        CHECK.due("rule " + rule + ", line " + line + ": " + what, false, true);
    }

    private static boolean isOwn(Element element) {
        Element outer = element;
        while (outer != null && outer.getKind() != ElementKind.PACKAGE) {
            if (outer.getSimpleName().contentEquals("FootQuarrel")) {
                return true;
            }
            outer = outer.getEnclosingElement();
        }
        return false;
    }

    /** Rule 11: calls that are no recursion go at most eight deep, those of the library counted. */
    private static void depth() {
        CHECK.due("methods that are there", CALLS.size() > 60, true);
        for (Element method : CALLS.keySet()) {
            if (method.getModifiers().contains(Modifier.PUBLIC)) {
                int deep = deep(method, new HashSet<>());
                if (deep > MOST_DEEP) {
                    CHECK.due("rule 11: " + method + " goes " + deep + " deep", false, true);
                }
            }
        }
    }

    private static int deep(Element method, Set<Element> open) {
        if (!open.add(method)) {
            return 0;
        }
        int most = 0;
        for (Element called : CALLS.getOrDefault(method, Set.of())) {
            most = Math.max(most, deep(called, open));
        }
        open.remove(method);
        return most + 1;
    }

    private static final class Rules extends TreePathScanner<Void, Void> {
        private final Deque<Element> methods = new ArrayDeque<>();
        private final Set<String> publicNames = new TreeSet<>();
        private int classes;

        private Element element(Tree tree) {
            return trees.getElement(new TreePath(getCurrentPath(), tree));
        }

        private Element current() {
            return trees.getElement(getCurrentPath());
        }

        @Override
        public Void visitCompilationUnit(CompilationUnitTree tree, Void nothing) {
            if (tree.getPackageName() != null) {
                broken(1, "a package", tree);
            }
            if (!tree.getImports().isEmpty()) {
                broken(4, "an import", tree);
            }
            if (tree.getTypeDecls().size() != 1) {
                broken(1, "another class beside", tree);
            }
            super.visitCompilationUnit(tree, nothing);
            if (classes > MOST_CLASSES) {
                broken(11, classes + " classes", tree);
            }
            return null;
        }

        @Override
        public Void visitClass(ClassTree tree, Void nothing) {
            classes++;
            Element owner = current().getEnclosingElement();
            boolean isOuter = owner.getKind() == ElementKind.PACKAGE;
            Set<Modifier> modifiers = tree.getModifiers().getFlags();
            if (!isOuter && (!owner.getKind().isClass() || !modifiers.contains(Modifier.STATIC))) {
                broken(2, "a class that isn't static within the class", tree);
            }
            if (tree.getSimpleName().length() == 0) {
                broken(2, "a class without a name", tree);
            }
            if (!isOuter && (modifiers.contains(Modifier.PUBLIC) || modifiers.contains(Modifier.PROTECTED))) {
                broken(1, "a class inside that is public or protected", tree);
            }
            int fields = 0;
            for (Tree member : tree.getMembers()) {
                if (member instanceof VariableTree field) {
                    fields += field.getModifiers().getFlags().contains(Modifier.STATIC) ? 0 : 1;
                } else if (member instanceof BlockTree) {
                    broken(5, "an initialiser block", member);
                } else if (isOuter && member instanceof MethodTree method && method.getModifiers().getFlags().contains(Modifier.PUBLIC)) {
                    publicNames.add(method.getName().toString());
                }
            }
            if (fields > MOST_FIELDS) {
                broken(11, fields + " fields", tree);
            }
            return super.visitClass(tree, nothing);
        }

        @Override
        public Void visitMethod(MethodTree tree, Void nothing) {
            Element method = current();
            Set<Modifier> modifiers = tree.getModifiers().getFlags();
            boolean inOuter = method.getEnclosingElement().getSimpleName().contentEquals("FootQuarrel");
            if (inOuter && !modifiers.contains(Modifier.PUBLIC) && !modifiers.contains(Modifier.PRIVATE)) {
                broken(1, "a member that is neither public nor private", tree);
            }
            if (method.getKind() == ElementKind.METHOD && !modifiers.contains(Modifier.PUBLIC)
                    && publicNames.contains(tree.getName().toString())) {
                broken(1, tree.getName() + " bears the name of a public method", tree);
            }
            if (Set.of("equals", "hashCode", "toString", "finalize").contains(tree.getName().toString())) {
                broken(6, "a " + tree.getName() + " of its own", tree);
            }
            if (!tree.getThrows().isEmpty()) {
                broken(6, "throws", tree);
            }
            if (tree.getParameters().size() > MOST_PARAMETERS) {
                broken(11, tree.getParameters().size() + " parameters", tree);
            }
            long begin = unit.getLineMap().getLineNumber(trees.getSourcePositions().getStartPosition(unit, tree));
            long end = unit.getLineMap().getLineNumber(Math.max(0, trees.getSourcePositions().getEndPosition(unit, tree)));
            if (end - begin + 1 > MOST_LINES) {
                broken(11, (end - begin + 1) + " lines", tree);
            }
            CALLS.computeIfAbsent(method, key -> new HashSet<>());
            methods.push(method);
            super.visitMethod(tree, nothing);
            methods.pop();
            return null;
        }

        private void calls(Element called) {
            if (!methods.isEmpty()) {
                CALLS.computeIfAbsent(methods.peek(), key -> new HashSet<>()).add(called);
            }
        }

        @Override
        public Void visitMethodInvocation(MethodInvocationTree tree, Void nothing) {
            Element called = element(tree.getMethodSelect());
            if (called instanceof ExecutableElement method) {
                String name = method.getEnclosingElement().getSimpleName() + "." + method.getSimpleName();
                boolean isSuper = method.getKind() == ElementKind.CONSTRUCTOR;
                boolean isClone = name.endsWith(".clone");
                if (!isOwn(method) && !isSuper && !isClone && !LIBRARY.contains(name)) {
                    broken(4, "the library's " + name, tree);
                }
                if (!isSuper) {
                    calls(method);
                }
            }
            return super.visitMethodInvocation(tree, nothing);
        }

        @Override
        public Void visitNewClass(NewClassTree tree, Void nothing) {
            Element made = element(tree.getIdentifier());
            if (!isOwn(made)) {
                broken(4, "a new " + made, tree);
            }
            if (tree.getClassBody() != null) {
                broken(2, "a class without a name", tree);
            }
            calls(current());
            return super.visitNewClass(tree, nothing);
        }

        private boolean isPlain(TypeMirror type) {
            return type.getKind().isPrimitive() || CLASSES.contains(type.toString().replaceAll("^java\\.lang\\.", ""))
                    || type.getKind() == TypeKind.DECLARED && isOwn(((javax.lang.model.type.DeclaredType) type).asElement());
        }

        private boolean isAllowed(TypeMirror type) {
            if (type instanceof ArrayType row) {
                TypeMirror of = row.getComponentType();
                return isPlain(of) || of instanceof ArrayType inner && inner.getComponentType().getKind().isPrimitive();
            }
            return isPlain(type);
        }

        @Override
        public Void visitVariable(VariableTree tree, Void nothing) {
            Element variable = current();
            TypeMirror type = variable.asType();
            if (!isAllowed(type)) {
                broken(3, "the type " + type, tree);
            }
            if (type.getKind() == TypeKind.DOUBLE || type.getKind() == TypeKind.FLOAT) {
                broken(3, "a number that is no whole one", tree);
            }
            if (variable.getKind() == ElementKind.FIELD) {
                field(tree, variable, type);
            }
            return super.visitVariable(tree, nothing);
        }

        private void field(VariableTree tree, Element variable, TypeMirror type) {
            Set<Modifier> modifiers = tree.getModifiers().getFlags();
            boolean isNone = tree.getName().contentEquals("NONE");
            if (variable.getEnclosingElement().getSimpleName().contentEquals("FootQuarrel")
                    && !modifiers.contains(isNone ? Modifier.PUBLIC : Modifier.PRIVATE)) {
                broken(1, "a field that can be seen", tree);
            }
            if (modifiers.contains(Modifier.STATIC)) {
                boolean isRow = type.getKind() == TypeKind.ARRAY && Set.of("int[]", "long[]", "char[]", "byte[]").contains(type.toString());
                boolean isOne = type.getKind().isPrimitive() || type.toString().equals("java.lang.String");
                if (!modifiers.contains(Modifier.FINAL) || tree.getInitializer() == null || !isRow && !isOne) {
                    broken(5, "static state", tree);
                }
            }
        }

        @Override
        public Void visitBinary(BinaryTree tree, Void nothing) {
            TypeMirror type = trees.getTypeMirror(getCurrentPath());
            if (tree.getKind() == Tree.Kind.PLUS && !type.getKind().isPrimitive()) {
                broken(10, "texts joined by +", tree);
            }
            return super.visitBinary(tree, nothing);
        }

        @Override
        public Void visitLiteral(LiteralTree tree, Void nothing) {
            if (tree.getValue() instanceof String text && !text.chars().allMatch(sign -> sign >= 1 && sign <= 127)) {
                broken(4, "a sign beyond 127", tree);
            }
            if (tree.getKind() == Tree.Kind.NULL_LITERAL) {
                broken(7, "null: the class has none so far", tree);
            }
            return super.visitLiteral(tree, nothing);
        }

        @Override
        public Void visitForLoop(ForLoopTree tree, Void nothing) {
            if (tree.getCondition() == null || tree.getUpdate().isEmpty() || tree.getInitializer().isEmpty()) {
                broken(9, "a loop without a counter and a bound", tree);
            }
            return super.visitForLoop(tree, nothing);
        }

        @Override
        public Void visitWhileLoop(WhileLoopTree tree, Void nothing) {
            broken(9, "a loop without a counter", tree);
            return super.visitWhileLoop(tree, nothing);
        }

        @Override
        public Void visitTypeCast(TypeCastTree tree, Void nothing) {
            if (!trees.getTypeMirror(new TreePath(getCurrentPath(), tree.getType())).getKind().isPrimitive()) {
                broken(6, "a cast", tree);
            }
            return super.visitTypeCast(tree, nothing);
        }

        @Override
        public Void visitIdentifier(IdentifierTree tree, Void nothing) {
            if (current() instanceof TypeElement type && !isOwn(type)
                    && !Set.of("String", "StringBuilder", "Integer", "Long", "Math", "System", "Arrays").contains(type.getSimpleName().toString())) {
                broken(4, "the library's " + type, tree);
            }
            return super.visitIdentifier(tree, nothing);
        }

        @Override
        public Void visitLambdaExpression(LambdaExpressionTree tree, Void nothing) {
            broken(2, "a lambda", tree);
            return super.visitLambdaExpression(tree, nothing);
        }

        @Override
        public Void visitMemberReference(MemberReferenceTree tree, Void nothing) {
            broken(2, "a method reference", tree);
            return super.visitMemberReference(tree, nothing);
        }

        @Override
        public Void visitThrow(ThrowTree tree, Void nothing) {
            broken(6, "throw", tree);
            return super.visitThrow(tree, nothing);
        }

        @Override
        public Void visitTry(TryTree tree, Void nothing) {
            broken(6, "try", tree);
            return super.visitTry(tree, nothing);
        }

        @Override
        public Void visitCatch(CatchTree tree, Void nothing) {
            broken(6, "catch", tree);
            return super.visitCatch(tree, nothing);
        }

        @Override
        public Void visitSynchronized(SynchronizedTree tree, Void nothing) {
            broken(6, "synchronized", tree);
            return super.visitSynchronized(tree, nothing);
        }

        @Override
        public Void visitAssert(AssertTree tree, Void nothing) {
            broken(6, "assert", tree);
            return super.visitAssert(tree, nothing);
        }
    }
}
