import com.sun.source.tree.AssertTree;
import com.sun.source.tree.BinaryTree;
import com.sun.source.tree.ClassTree;
import com.sun.source.tree.CompilationUnitTree;
import com.sun.source.tree.DoWhileLoopTree;
import com.sun.source.tree.ForLoopTree;
import com.sun.source.tree.InstanceOfTree;
import com.sun.source.tree.LambdaExpressionTree;
import com.sun.source.tree.MemberReferenceTree;
import com.sun.source.tree.MethodInvocationTree;
import com.sun.source.tree.MethodTree;
import com.sun.source.tree.NewArrayTree;
import com.sun.source.tree.NewClassTree;
import com.sun.source.tree.SynchronizedTree;
import com.sun.source.tree.ThrowTree;
import com.sun.source.tree.Tree;
import com.sun.source.tree.TryTree;
import com.sun.source.tree.TypeCastTree;
import com.sun.source.tree.VariableTree;
import com.sun.source.tree.WhileLoopTree;
import com.sun.source.util.JavacTask;
import com.sun.source.util.SourcePositions;
import com.sun.source.util.TreePathScanner;
import com.sun.source.util.Trees;
import java.io.IOException;
import java.nio.file.Files;
import java.nio.file.Path;
import java.util.List;
import java.util.Map;
import java.util.Set;
import java.util.TreeMap;
import java.util.TreeSet;
import javax.lang.model.element.Element;
import javax.lang.model.element.ElementKind;
import javax.lang.model.element.Modifier;
import javax.lang.model.element.TypeElement;
import javax.lang.model.element.VariableElement;
import javax.lang.model.type.ArrayType;
import javax.lang.model.type.TypeKind;
import javax.lang.model.type.TypeMirror;
import javax.tools.JavaCompiler;
import javax.tools.StandardJavaFileManager;
import javax.tools.ToolProvider;

/**
 * The class keeps to LANGUAGE.md so far as its source tells; FaceTest looks at rule 1 and the room's limit is RoomTest's.
 * It is stricter than the rules where the class needs less than they leave: nothing is thrown, cast or made by a call.
 */
public final class LanguageTest {
    private static final Path SOURCE = Path.of("src/main/java/HornCity.java");
    private static final Set<String> LIBRARY = Set.of("Math.min", "Math.max", "Math.abs", "Math.floorMod",
            "Math.floorDiv", "Integer.bitCount", "Integer.compare", "Long.compare", "Object.<init>");
    private static final int MOST_CLASSES = 12;
    private static final int MOST_FIELDS = 20;
    private static final int MOST_PARAMETERS = 7;
    private static final int MOST_LINES = 60;
    private static final int MOST_DEEP = 8;

    public static void main(String[] args) throws IOException {
        signs();
        JavaCompiler compiler = ToolProvider.getSystemJavaCompiler();
        StandardJavaFileManager files = compiler.getStandardFileManager(null, null, null);
        JavacTask task = (JavacTask) compiler.getTask(null, files, null, List.of("--release", "17"), null,
                files.getJavaFileObjects(SOURCE));
        Reader reader = new Reader(Trees.instance(task));
        for (CompilationUnitTree unit : task.parse()) {
            task.analyze();
            no("package", unit.getPackage());
            Due.due("imports", unit.getImports().size(), 0);
            Due.due("classes beside HornCity", unit.getTypeDecls().size(), 1);
            reader.scan(unit, null);
        }
        Due.due("classes, " + reader.classes, reader.classes <= MOST_CLASSES ? 1 : 0, 1);
        Due.due("classes were read", reader.classes > 0 ? 1 : 0, 1);
        for (String call : reader.calls.keySet()) {
            int deep = reader.depthFrom(call, new TreeSet<>());
            Due.due("calls open at once from " + call + ", " + deep + ", are few", deep <= MOST_DEEP ? 1 : 0, 1);
        }
        Due.finish("LanguageTest");
    }

    private static void signs() throws IOException {
        int others = 0;
        for (byte sign : Files.readAllBytes(SOURCE)) {
            others += sign <= 0 ? 1 : 0;
        }
        Due.due("signs beyond 1 to 127 in the source", others, 0);
    }

    private static void no(String what, Object tree) {
        Due.due("no " + what + (tree == null ? "" : ": " + tree), tree == null ? 0 : 1, 0);
    }

    /** Goes through the source once, and keeps who calls whom. */
    private static final class Reader extends TreePathScanner<Void, Void> {
        final Map<String, Set<String>> calls = new TreeMap<>();
        int classes;
        private final Trees trees;
        private String method = "";
        private boolean makes;

        Reader(Trees trees) {
            this.trees = trees;
        }

        /** A call that comes back to one that stands open is deeper than any limit. */
        int depthFrom(String call, Set<String> open) {
            if (!calls.containsKey(call)) {
                return 0;
            }
            if (!open.add(call)) {
                return 1000;
            }
            int deepest = 0;
            for (String next : calls.get(call)) {
                deepest = Math.max(deepest, depthFrom(next, open));
            }
            open.remove(call);
            return deepest + 1;
        }

        @Override
        public Void visitClass(ClassTree tree, Void none) {
            classes++;
            int fields = 0;
            for (Tree member : tree.getMembers()) {
                if (member instanceof VariableTree field) {
                    boolean isStatic = field.getModifiers().getFlags().contains(Modifier.STATIC);
                    fields += isStatic ? 0 : 1;
                    if (isStatic) {
                        constant(field);
                    }
                }
                Due.due("no block for itself in " + tree.getSimpleName(), member.getKind() == Tree.Kind.BLOCK ? 1 : 0, 0);
            }
            Due.due("fields of " + tree.getSimpleName() + ", " + fields, fields <= MOST_FIELDS ? 1 : 0, 1);
            return super.visitClass(tree, none);
        }

        private void constant(VariableTree field) {
            VariableElement element = (VariableElement) trees.getElement(trees.getPath(unit(), field));
            boolean isFinal = element.getModifiers().contains(Modifier.FINAL);
            Due.due("constant " + field.getName(), isFinal && element.getConstantValue() != null ? 1 : 0, 1);
        }

        @Override
        public Void visitMethod(MethodTree tree, Void none) {
            Element element = trees.getElement(getCurrentPath());
            String outer = method;
            boolean outerMakes = makes;
            method = named(element);
            makes = element.getKind() == ElementKind.CONSTRUCTOR;
            calls.putIfAbsent(method, new TreeSet<>());
            long lines = lineOf(tree, false) - lineOf(tree, true) + 1;
            Due.due("lines of " + method + ", " + lines, lines <= MOST_LINES ? 1 : 0, 1);
            Due.due("parameters of " + method, tree.getParameters().size() <= MOST_PARAMETERS ? 1 : 0, 1);
            Due.due("two methods share no name, " + method, same(element), 1);
            no("throws", tree.getThrows().isEmpty() ? null : tree.getThrows());
            super.visitMethod(tree, none);
            method = outer;
            makes = outerMakes;
            return null;
        }

        /** The calls are kept by name: that tells them apart only while no class has a name twice. */
        private static long same(Element method) {
            return method.getEnclosingElement().getEnclosedElements().stream()
                    .filter(other -> other.getKind() == method.getKind())
                    .filter(other -> other.getSimpleName().equals(method.getSimpleName())).count();
        }

        @Override
        public Void visitMethodInvocation(MethodInvocationTree tree, Void none) {
            called(trees.getElement(getCurrentPath()));
            return super.visitMethodInvocation(tree, none);
        }

        @Override
        public Void visitNewClass(NewClassTree tree, Void none) {
            made(tree);
            called(trees.getElement(getCurrentPath()));
            no("class without a name", tree.getClassBody());
            return super.visitNewClass(tree, none);
        }

        @Override
        public Void visitNewArray(NewArrayTree tree, Void none) {
            made(tree);
            return super.visitNewArray(tree, none);
        }

        private void made(Tree tree) {
            Due.due(method + " makes " + tree, makes ? 1 : 0, 1);
        }

        private void called(Element callee) {
            String name = named(callee);
            boolean isOwn = isOwn((TypeElement) callee.getEnclosingElement());
            Due.due("call of " + name, isOwn || LIBRARY.contains(name) ? 1 : 0, 1);
            if (isOwn) {
                calls.computeIfAbsent(method, key -> new TreeSet<>()).add(name);
            }
        }

        @Override
        public Void visitVariable(VariableTree tree, Void none) {
            Element element = trees.getElement(getCurrentPath());
            Due.due("type of " + tree.getName(), isNumberOrOwn(element.asType()) ? 1 : 0, 1);
            return super.visitVariable(tree, none);
        }

        private static boolean isNumberOrOwn(TypeMirror type) {
            TypeMirror plain = type instanceof ArrayType row ? row.getComponentType() : type;
            boolean isDeclared = plain.getKind() == TypeKind.DECLARED;
            return plain.getKind().isPrimitive() || isDeclared && plain.toString().startsWith("HornCity");
        }

        @Override
        public Void visitBinary(BinaryTree tree, Void none) {
            TypeMirror type = trees.getTypeMirror(getCurrentPath());
            Due.due("only numbers are joined, " + tree, type.getKind().isPrimitive() ? 1 : 0, 1);
            return super.visitBinary(tree, none);
        }

        @Override
        public Void visitForLoop(ForLoopTree tree, Void none) {
            Due.due("a loop has a bound, " + method, tree.getCondition() != null ? 1 : 0, 1);
            return super.visitForLoop(tree, none);
        }

        @Override
        public Void visitWhileLoop(WhileLoopTree tree, Void none) {
            no("loop without a counter", tree);
            return null;
        }

        @Override
        public Void visitDoWhileLoop(DoWhileLoopTree tree, Void none) {
            no("loop without a counter", tree);
            return null;
        }

        @Override
        public Void visitLambdaExpression(LambdaExpressionTree tree, Void none) {
            no("lambda", tree);
            return null;
        }

        @Override
        public Void visitMemberReference(MemberReferenceTree tree, Void none) {
            no("method reference", tree);
            return null;
        }

        @Override
        public Void visitTry(TryTree tree, Void none) {
            no("try", tree);
            return null;
        }

        @Override
        public Void visitThrow(ThrowTree tree, Void none) {
            no("throw", tree);
            return null;
        }

        @Override
        public Void visitAssert(AssertTree tree, Void none) {
            no("assert", tree);
            return null;
        }

        @Override
        public Void visitSynchronized(SynchronizedTree tree, Void none) {
            no("synchronized", tree);
            return null;
        }

        @Override
        public Void visitInstanceOf(InstanceOfTree tree, Void none) {
            no("instanceof", tree);
            return null;
        }

        @Override
        public Void visitTypeCast(TypeCastTree tree, Void none) {
            no("cast", tree);
            return null;
        }

        private CompilationUnitTree unit() {
            return getCurrentPath().getCompilationUnit();
        }

        private long lineOf(Tree tree, boolean isFirst) {
            SourcePositions places = trees.getSourcePositions();
            long place = isFirst ? places.getStartPosition(unit(), tree) : places.getEndPosition(unit(), tree);
            return unit().getLineMap().getLineNumber(place);
        }

        private static boolean isOwn(TypeElement type) {
            return type.getQualifiedName().toString().startsWith("HornCity");
        }

        private static String named(Element callee) {
            return callee.getEnclosingElement().getSimpleName() + "." + callee.getSimpleName();
        }
    }
}
