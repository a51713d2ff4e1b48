import com.sun.source.tree.AnnotationTree;
import com.sun.source.tree.AssertTree;
import com.sun.source.tree.BinaryTree;
import com.sun.source.tree.BlockTree;
import com.sun.source.tree.ClassTree;
import com.sun.source.tree.CompilationUnitTree;
import com.sun.source.tree.CompoundAssignmentTree;
import com.sun.source.tree.DoWhileLoopTree;
import com.sun.source.tree.ExpressionTree;
import com.sun.source.tree.ForLoopTree;
import com.sun.source.tree.ImportTree;
import com.sun.source.tree.LambdaExpressionTree;
import com.sun.source.tree.LiteralTree;
import com.sun.source.tree.MemberReferenceTree;
import com.sun.source.tree.MethodInvocationTree;
import com.sun.source.tree.MethodTree;
import com.sun.source.tree.NewArrayTree;
import com.sun.source.tree.NewClassTree;
import com.sun.source.tree.SynchronizedTree;
import com.sun.source.tree.ThrowTree;
import com.sun.source.tree.Tree;
import com.sun.source.tree.TryTree;
import com.sun.source.tree.TypeCastTree;
import com.sun.source.tree.VariableTree;
import com.sun.source.tree.WhileLoopTree;
import com.sun.source.util.JavacTask;
import com.sun.source.util.SourcePositions;
import com.sun.source.util.TreePath;
import com.sun.source.util.TreePathScanner;
import com.sun.source.util.Trees;
import java.io.IOException;
import java.nio.file.Files;
import java.nio.file.Path;
import java.util.HashMap;
import java.util.HashSet;
import java.util.List;
import java.util.Map;
import java.util.Set;
import java.util.TreeSet;
import javax.lang.model.element.Element;
import javax.lang.model.element.ElementKind;
import javax.lang.model.element.ExecutableElement;
import javax.lang.model.element.Modifier;
import javax.lang.model.element.TypeElement;
import javax.lang.model.type.ArrayType;
import javax.lang.model.type.DeclaredType;
import javax.lang.model.type.TypeKind;
import javax.lang.model.type.TypeMirror;
import javax.tools.JavaCompiler;
import javax.tools.StandardJavaFileManager;
import javax.tools.ToolProvider;

/** Those rules of LANGUAGE.md that the source shows, read as javac reads it. Each line of a fault begins with the rule. */
public final class SourceTest {
    private static final Due DUE = new Due();
    private static final Path SOURCE = Path.of("src/main/java/RootedClasses.java");
    private static final String OUTER = "RootedClasses";
    private static final int MOST_LINES = 60, MOST_PARAMETERS = 7, MOST_CLASSES = 12, MOST_FIELDS = 20, MOST_DEEP = 8;
    private static final Set<String> TYPES = Set.of("java.lang.String", "java.lang.StringBuilder", "java.lang.Integer",
        "java.util.ArrayList", "java.util.List");
    private static final Set<String> CONSTANTS = Set.of("int", "long", "boolean", "char", "java.lang.String", "int[]", "long[]",
        "char[]", "byte[]");
    private static final Set<String> LIBRARY = Set.of("java.lang.System.arraycopy", "java.util.Arrays.copyOf",
        "java.util.Arrays.copyOfRange", "java.util.Arrays.fill", "java.lang.Object.<init>");

    public static void main(String[] args) throws IOException {
        String source = Files.readString(SOURCE);
        yes("4: signs are 1 to 127", source.chars().allMatch(c -> c > 0 && c < 128));
        JavaCompiler compiler = ToolProvider.getSystemJavaCompiler();
        try (StandardJavaFileManager files = compiler.getStandardFileManager(null, null, null)) {
            JavacTask task = (JavacTask) compiler.getTask(null, files, null, List.of("--release", "17", "-proc:none"), null,
                files.getJavaFileObjects(SOURCE));
            CompilationUnitTree unit = task.parse().iterator().next();
            task.analyze();
            Reader reader = new Reader(Trees.instance(task), unit);
            reader.scan(unit, null);
            reader.end();
        }
        DUE.end("SourceTest");
    }

    private static void yes(String what, boolean is) {
        DUE.is(what, is ? 1 : 0, 1);
    }

    private static final class Reader extends TreePathScanner<Void, Void> {
        private final Trees trees;
        private final CompilationUnitTree unit;
        private final Map<String, Set<String>> calls = new HashMap<>();
        private final Set<String> publicNames = new HashSet<>();
        private final Set<String> otherNames = new HashSet<>();
        private int classes = 0;

        Reader(Trees trees, CompilationUnitTree unit) {
            this.trees = trees;
            this.unit = unit;
        }

        void end() {
            yes("no package line", unit.getPackage() == null);
            yes("one file, one public class", unit.getTypeDecls().size() == 1);
            yes("11: " + classes + " classes", classes <= MOST_CLASSES);
            otherNames.retainAll(publicNames);
            yes("1: names of public methods on others " + otherNames, otherNames.isEmpty());
            yes("11: calls are found", calls.containsKey(OUTER + ".digest()"));
            for (String method : calls.keySet()) {
                int deep = deep(method, 1);
                yes("11: " + method + " goes " + deep + " deep", deep <= MOST_DEEP);
            }
        }

        private int deep(String method, int level) {
            int deepest = level;
            if (level <= MOST_DEEP) {
                for (String next : calls.getOrDefault(method, Set.of())) {
                    deepest = Math.max(deepest, deep(next, level + 1));
                }
            }
            return deepest;
        }

        private long line(long position) {
            return unit.getLineMap().getLineNumber(position);
        }

        private String at(Tree tree) {
            return " (line " + line(trees.getSourcePositions().getStartPosition(unit, tree)) + ")";
        }

        private void never(String what, Tree tree) {
            yes(what + at(tree), false);
        }

        private TypeMirror typeOf(Tree tree) {
            return trees.getTypeMirror(new TreePath(getCurrentPath(), tree));
        }

        private Element elementOf(Tree tree) {
            return trees.getElement(new TreePath(getCurrentPath(), tree));
        }

        /** The method around, or the constructors' common head, where fields get their first values. */
        private String around() {
            for (TreePath path = getCurrentPath(); path != null; path = path.getParentPath()) {
                if (path.getLeaf() instanceof MethodTree) {
                    return nameOf((ExecutableElement) trees.getElement(path));
                }
                if (path.getLeaf() instanceof ClassTree) {
                    return ((TypeElement) trees.getElement(path)).getQualifiedName() + ".<init>()";
                }
            }
            return "";
        }

        private static String nameOf(ExecutableElement method) {
            StringBuilder name = new StringBuilder(((TypeElement) method.getEnclosingElement()).getQualifiedName());
            name.append('.').append(method.getSimpleName()).append('(');
            method.getParameters().forEach(p -> name.append(p.asType()).append(' '));
            return name.toString().trim() + ")";
        }

        private static boolean isOwn(Element element) {
            for (Element e = element; e != null; e = e.getEnclosingElement()) {
                if (e.getSimpleName().contentEquals(OUTER)) {
                    return true;
                }
            }
            return false;
        }

        private static boolean isAllowed(TypeMirror type) {
            if (type.getKind().isPrimitive() || type.getKind() == TypeKind.VOID) {
                return true;
            }
            if (type.getKind() == TypeKind.ARRAY) {
                TypeMirror part = ((ArrayType) type).getComponentType();
                boolean isTable = part.getKind() == TypeKind.ARRAY && ((ArrayType) part).getComponentType().getKind().isPrimitive();
                return isTable || part.getKind().isPrimitive() || part.getKind() == TypeKind.DECLARED && isAllowed(part);
            }
            if (type.getKind() == TypeKind.DECLARED) {
                Element element = ((DeclaredType) type).asElement();
                return isOwn(element) || TYPES.contains(((TypeElement) element).getQualifiedName().toString());
            }
            return false;
        }

        private static boolean isText(TypeMirror type) {
            return type != null && type.toString().equals("java.lang.String");
        }

        private static boolean isBoxed(TypeMirror type) {
            return type != null && type.toString().equals("java.lang.Integer");
        }

        @Override
        public Void visitImport(ImportTree tree, Void none) {
            String name = tree.getQualifiedIdentifier().toString();
            yes("4: import of " + name, !tree.isStatic() && TYPES.contains(name) || name.equals("java.util.Arrays"));
            return super.visitImport(tree, none);
        }

        @Override
        public Void visitClass(ClassTree tree, Void none) {
            classes++;
            Set<Modifier> flags = tree.getModifiers().getFlags();
            Tree parent = getCurrentPath().getParentPath().getLeaf();
            if (parent == unit) {
                yes("1: " + tree.getSimpleName() + " is public and final", flags.containsAll(Set.of(Modifier.PUBLIC, Modifier.FINAL)));
            } else {
                yes("2: " + tree.getSimpleName() + " is a member", parent instanceof ClassTree);
                yes("2: " + tree.getSimpleName() + " is static", flags.contains(Modifier.STATIC));
                yes("1: " + tree.getSimpleName() + " is hidden", !flags.contains(Modifier.PUBLIC) && !flags.contains(Modifier.PROTECTED));
            }
            int fields = 0;
            for (Tree member : tree.getMembers()) {
                if (member instanceof VariableTree field && !field.getModifiers().getFlags().contains(Modifier.STATIC)) {
                    fields++;
                }
                yes("5: no block of first values" + at(member), !(member instanceof BlockTree));
            }
            yes("11: " + tree.getSimpleName() + " has " + fields + " fields", fields <= MOST_FIELDS);
            return super.visitClass(tree, none);
        }

        @Override
        public Void visitMethod(MethodTree tree, Void none) {
            ExecutableElement method = (ExecutableElement) trees.getElement(getCurrentPath());
            SourcePositions places = trees.getSourcePositions();
            long end = places.getEndPosition(unit, tree);
            if (end >= 0) {
                long lines = line(end) - line(places.getStartPosition(unit, tree)) + 1;
                yes("11: " + lines + " lines" + at(tree), lines <= MOST_LINES);
            }
            yes("11: parameters" + at(tree), tree.getParameters().size() <= MOST_PARAMETERS);
            yes("3: " + method.getReturnType() + at(tree), isAllowed(method.getReturnType()));
            yes("6: throws nothing" + at(tree), tree.getThrows().isEmpty());
            yes("6: " + method.getModifiers() + at(tree), !method.getModifiers().contains(Modifier.SYNCHRONIZED)
                && !method.getModifiers().contains(Modifier.NATIVE));
            calls.computeIfAbsent(nameOf(method), name -> new TreeSet<>());
            String name = method.getSimpleName().toString();
            boolean isOuter = method.getEnclosingElement().getSimpleName().contentEquals(OUTER);
            if (isOuter && method.getModifiers().contains(Modifier.PUBLIC)) {
                publicNames.add(name);
            } else if (!name.equals("<init>")) {
                otherNames.add(name);
            }
            if (isOuter) {
                yes("1: public or private" + at(tree), method.getModifiers().contains(Modifier.PUBLIC)
                    || method.getModifiers().contains(Modifier.PRIVATE));
            }
            yes("6: no " + name, !Set.of("equals", "hashCode", "toString", "finalize").contains(name));
            return super.visitMethod(tree, none);
        }

        @Override
        public Void visitVariable(VariableTree tree, Void none) {
            Element variable = trees.getElement(getCurrentPath());
            TypeMirror type = variable.asType();
            yes("3: " + type + at(tree), isAllowed(type));
            Set<Modifier> flags = variable.getModifiers();
            if (flags.contains(Modifier.STATIC)) {
                yes("5: final" + at(tree), flags.contains(Modifier.FINAL));
                yes("5: " + type + at(tree), CONSTANTS.contains(type.toString()));
                boolean isArray = type.getKind() == TypeKind.ARRAY;
                yes("5: written out" + at(tree), !isArray || tree.getInitializer() instanceof NewArrayTree written
                    && written.getInitializers() != null);
            }
            if (variable.getKind() == ElementKind.FIELD && variable.getEnclosingElement().getSimpleName().contentEquals(OUTER)) {
                yes("1: public or private" + at(tree), flags.contains(Modifier.PRIVATE)
                    || flags.containsAll(Set.of(Modifier.PUBLIC, Modifier.STATIC)));
            }
            return super.visitVariable(tree, none);
        }

        @Override
        public Void visitMethodInvocation(MethodInvocationTree tree, Void none) {
            ExecutableElement method = (ExecutableElement) elementOf(tree.getMethodSelect());
            String where = ((TypeElement) method.getEnclosingElement()).getQualifiedName().toString();
            String name = where + "." + method.getSimpleName();
            if (!isOwn(method)) {
                boolean isFunction = Set.of("java.lang.Math", "java.lang.Integer", "java.lang.Long").contains(where)
                    && method.getModifiers().contains(Modifier.STATIC) && !name.endsWith("Exact");
                yes("4: " + name + at(tree), isFunction || LIBRARY.contains(name));
            }
            calls.computeIfAbsent(around(), from -> new TreeSet<>()).add(nameOf(method));
            return super.visitMethodInvocation(tree, none);
        }

        @Override
        public Void visitNewClass(NewClassTree tree, Void none) {
            yes("2: no class without a name" + at(tree), tree.getClassBody() == null);
            ExecutableElement made = (ExecutableElement) trees.getElement(getCurrentPath());
            yes("4: new " + made.getEnclosingElement() + at(tree), isOwn(made));
            yes("12: objects are made with the object" + at(tree), around().contains("<init>"));
            calls.computeIfAbsent(around(), from -> new TreeSet<>()).add(nameOf(made));
            return super.visitNewClass(tree, none);
        }

        @Override
        public Void visitNewArray(NewArrayTree tree, Void none) {
            yes("12: arrays are made with the object" + at(tree), around().contains("<init>"));
            return super.visitNewArray(tree, none);
        }

        @Override
        public Void visitBinary(BinaryTree tree, Void none) {
            TypeMirror left = typeOf(tree.getLeftOperand());
            TypeMirror right = typeOf(tree.getRightOperand());
            yes("10: texts are not joined by +" + at(tree), tree.getKind() != Tree.Kind.PLUS || !isText(left) && !isText(right));
            if (tree.getKind() == Tree.Kind.EQUAL_TO || tree.getKind() == Tree.Kind.NOT_EQUAL_TO) {
                yes("6: == of texts" + at(tree), !(isText(left) && isText(right)) && !(isBoxed(left) && isBoxed(right)));
            }
            return super.visitBinary(tree, none);
        }

        @Override
        public Void visitCompoundAssignment(CompoundAssignmentTree tree, Void none) {
            yes("10: texts are not joined by +=" + at(tree), !isText(typeOf(tree.getVariable())));
            return super.visitCompoundAssignment(tree, none);
        }

        @Override
        public Void visitTypeCast(TypeCastTree tree, Void none) {
            yes("6: only numbers are cast here" + at(tree), typeOf(tree.getType()).getKind().isPrimitive());
            return super.visitTypeCast(tree, none);
        }

        private void hasEnd(ExpressionTree condition, Tree loop) {
            boolean isSaid = condition != null && !condition.toString().replaceAll("[()]", "").equals("true");
            yes("9: the loop has an end" + at(loop), isSaid);
        }

        @Override
        public Void visitForLoop(ForLoopTree tree, Void none) {
            hasEnd(tree.getCondition(), tree);
            return super.visitForLoop(tree, none);
        }

        @Override
        public Void visitWhileLoop(WhileLoopTree tree, Void none) {
            hasEnd(tree.getCondition(), tree);
            return super.visitWhileLoop(tree, none);
        }

        @Override
        public Void visitDoWhileLoop(DoWhileLoopTree tree, Void none) {
            hasEnd(tree.getCondition(), tree);
            return super.visitDoWhileLoop(tree, none);
        }

        @Override
        public Void visitLiteral(LiteralTree tree, Void none) {
            if (tree.getValue() instanceof String text) {
                yes("4: signs of texts" + at(tree), text.chars().allMatch(c -> c > 0 && c < 128));
            }
            return super.visitLiteral(tree, none);
        }

        @Override
        public Void visitLambdaExpression(LambdaExpressionTree tree, Void none) {
            never("2: no lambda", tree);
            return null;
        }

        @Override
        public Void visitMemberReference(MemberReferenceTree tree, Void none) {
            never("2: no method reference", tree);
            return null;
        }

        @Override
        public Void visitThrow(ThrowTree tree, Void none) {
            never("6: no throw", tree);
            return null;
        }

        @Override
        public Void visitTry(TryTree tree, Void none) {
            never("6: no try", tree);
            return null;
        }

        @Override
        public Void visitSynchronized(SynchronizedTree tree, Void none) {
            never("6: no synchronized", tree);
            return null;
        }

        @Override
        public Void visitAssert(AssertTree tree, Void none) {
            never("6: no assert", tree);
            return null;
        }

        @Override
        public Void visitAnnotation(AnnotationTree tree, Void none) {
            never("no annotation is among what the rules leave", tree);
            return null;
        }
    }
}
