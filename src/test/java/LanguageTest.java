import com.sun.source.tree.AssertTree;
import com.sun.source.tree.BinaryTree;
import com.sun.source.tree.BlockTree;
import com.sun.source.tree.ClassTree;
import com.sun.source.tree.CompilationUnitTree;
import com.sun.source.tree.ExpressionTree;
import com.sun.source.tree.IdentifierTree;
import com.sun.source.tree.ImportTree;
import com.sun.source.tree.InstanceOfTree;
import com.sun.source.tree.LambdaExpressionTree;
import com.sun.source.tree.LiteralTree;
import com.sun.source.tree.MemberReferenceTree;
import com.sun.source.tree.MemberSelectTree;
import com.sun.source.tree.MethodInvocationTree;
import com.sun.source.tree.MethodTree;
import com.sun.source.tree.NewArrayTree;
import com.sun.source.tree.NewClassTree;
import com.sun.source.tree.SynchronizedTree;
import com.sun.source.tree.ThrowTree;
import com.sun.source.tree.Tree;
import com.sun.source.tree.TryTree;
import com.sun.source.tree.TypeCastTree;
import com.sun.source.tree.VariableTree;
import com.sun.source.util.JavacTask;
import com.sun.source.util.TreePath;
import com.sun.source.util.TreePathScanner;
import com.sun.source.util.Trees;
import java.io.IOException;
import java.util.List;
import java.util.Map;
import java.util.Set;
import java.util.TreeMap;
import java.util.TreeSet;
import javax.lang.model.element.Element;
import javax.lang.model.element.ElementKind;
import javax.lang.model.element.ExecutableElement;
import javax.lang.model.element.Modifier;
import javax.lang.model.element.TypeElement;
import javax.lang.model.type.TypeMirror;
import javax.tools.JavaCompiler;
import javax.tools.StandardJavaFileManager;
import javax.tools.ToolProvider;

/** The rules of LANGUAGE.md that the source shows, looked at in javac's own tree of it. */
public final class LanguageTest {
    private static final Check CHECK = new Check("LanguageTest");

    /** Of rule 4 what the class may call; of the whole list only what it has a use for. */
    private static final Set<String> LIBRARY = Set.of(
            "java.lang.String.length", "java.lang.String.charAt", "java.lang.String.isEmpty", "java.lang.String.equals",
            "java.lang.Math.min", "java.lang.Math.max", "java.lang.Math.abs", "java.lang.Math.floorDiv",
            "java.lang.Math.floorMod", "java.lang.Integer.bitCount", "java.lang.Integer.compare",
            "java.lang.System.arraycopy", "java.util.Arrays.fill");
    private static final Set<String> THROWN = Set.of("IllegalStateException", "IllegalArgumentException",
            "IndexOutOfBoundsException", "ArithmeticException", "UnsupportedOperationException",
            "NoSuchElementException", "RuntimeException");
    private static final Set<String> CONSTANTS = Set.of("int", "long", "boolean", "char", "java.lang.String",
            "int[]", "long[]", "char[]", "byte[]");
    private static final Set<String> NUMBERS = Set.of("int", "long", "short", "byte", "char", "boolean");

    public static void main(String[] args) throws IOException {
        JavaCompiler compiler = ToolProvider.getSystemJavaCompiler();
        try (StandardJavaFileManager files = compiler.getStandardFileManager(null, null, null)) {
            JavacTask task = (JavacTask) compiler.getTask(null, files, null, List.of("-proc:none"), null,
                    files.getJavaFileObjects("src/main/java/LongerHalf.java"));
            CompilationUnitTree unit = task.parse().iterator().next();
            task.analyze();
            Looker looker = new Looker(Trees.instance(task), unit);
            looker.scan(unit, null);
            looker.whole();
        }
        CHECK.end();
    }

    private static void rule(int number, String what, boolean holds) {
        CHECK.due("rule " + number + ": " + what, holds, true);
    }

    private static final class Looker extends TreePathScanner<Void, Void> {
        private final Trees trees;
        private final CompilationUnitTree unit;
        private final Map<String, Set<String>> calls = new TreeMap<>();
        private final Set<String> face = new TreeSet<>();
        private final Set<String> hidden = new TreeSet<>();
        private int classes;

        Looker(Trees trees, CompilationUnitTree unit) {
            this.trees = trees;
            this.unit = unit;
        }

        private Element element(Tree tree) {
            return trees.getElement(new TreePath(getCurrentPath(), tree));
        }

        private Element here() {
            return trees.getElement(getCurrentPath());
        }

        private String type(Tree tree) {
            TypeMirror mirror = trees.getTypeMirror(new TreePath(getCurrentPath(), tree));
            return mirror == null ? "" : mirror.toString();
        }

        private long line(long position) {
            return unit.getLineMap().getLineNumber(position);
        }

        private String at(Tree tree) {
            long start = trees.getSourcePositions().getStartPosition(unit, tree);
            return " in line " + line(start) + ": " + tree.toString().strip().lines().findFirst().orElse("");
        }

        private static boolean isOwn(Element e) {
            for (Element up = e; up != null; up = up.getEnclosingElement()) {
                if (up instanceof TypeElement && ((TypeElement) up).getQualifiedName().contentEquals("LongerHalf")) {
                    return true;
                }
            }
            return false;
        }

        private static String fullName(Element e) {
            return ((TypeElement) e.getEnclosingElement()).getQualifiedName() + "." + e.getSimpleName();
        }

        private <T extends Tree> T around(Class<T> sort) {
            TreePath path = getCurrentPath().getParentPath();
            while (path != null && !sort.isInstance(path.getLeaf())) {
                path = path.getParentPath();
            }
            return path == null ? null : sort.cast(path.getLeaf());
        }

        private String methodAround() {
            TreePath path = getCurrentPath();
            while (path != null && !(path.getLeaf() instanceof MethodTree)) {
                path = path.getParentPath();
            }
            return path == null ? "" : fullName(trees.getElement(path));
        }

        private boolean isInLoop() {
            for (TreePath path = getCurrentPath(); path != null; path = path.getParentPath()) {
                switch (path.getLeaf().getKind()) {
                    case FOR_LOOP:
                    case WHILE_LOOP:
                    case DO_WHILE_LOOP:
                    case ENHANCED_FOR_LOOP:
                        return true;
                    case METHOD:
                        return false;
                    default:
                        break;
                }
            }
            return false;
        }

        @Override
        public Void visitImport(ImportTree tree, Void none) {
            rule(4, "no import but the document's own" + at(tree),
                    tree.getQualifiedIdentifier().toString().equals("java.util.NoSuchElementException"));
            return null;
        }

        @Override
        public Void visitClass(ClassTree tree, Void none) {
            classes++;
            Element e = here();
            boolean isFace = e.getEnclosingElement().getKind() == ElementKind.PACKAGE;
            rule(2, "a class inside a class, no local one" + at(tree), isFace || e.getEnclosingElement().getKind().isClass());
            rule(1, "public and final outside, static inside" + at(tree), isFace
                    ? e.getModifiers().containsAll(Set.of(Modifier.PUBLIC, Modifier.FINAL))
                    : e.getModifiers().contains(Modifier.STATIC) && !e.getModifiers().contains(Modifier.PUBLIC)
                            && !e.getModifiers().contains(Modifier.PROTECTED));
            int fields = 0;
            for (Tree member : tree.getMembers()) {
                boolean isField = member instanceof VariableTree;
                boolean isFixed = isField && ((VariableTree) member).getModifiers().getFlags().contains(Modifier.STATIC);
                fields += isField && !isFixed ? 1 : 0;
                rule(5, "no block ahead of all" + at(member), !(member instanceof BlockTree));
            }
            rule(11, "some twenty fields" + at(tree), fields <= 20);
            return super.visitClass(tree, none);
        }

        @Override
        public Void visitMethod(MethodTree tree, Void none) {
            ExecutableElement e = (ExecutableElement) here();
            boolean isFace = fullName(e).startsWith("LongerHalf.") && e.getModifiers().contains(Modifier.PUBLIC)
                    && e.getEnclosingElement().getSimpleName().contentEquals("LongerHalf");
            if (isFace) {
                face.add(e.getSimpleName().toString());
            } else if (e.getKind() == ElementKind.METHOD) {
                hidden.add(e.getSimpleName().toString());
                rule(1, "no public method but the face's" + at(tree), !e.getModifiers().contains(Modifier.PUBLIC));
            }
            rule(11, "seven parameters" + at(tree), isFace || tree.getParameters().size() <= 7);
            long from = line(trees.getSourcePositions().getStartPosition(unit, tree));
            long to = line(trees.getSourcePositions().getEndPosition(unit, tree));
            rule(11, "some sixty lines" + at(tree), to - from < 60);
            calls.computeIfAbsent(fullName(e), k -> new TreeSet<>());
            return super.visitMethod(tree, none);
        }

        @Override
        public Void visitVariable(VariableTree tree, Void none) {
            Element e = here();
            String type = e.asType().toString();
            boolean isOwn = type.startsWith("LongerHalf.");
            String bare = type.replace("[]", "");
            int depth = (type.length() - bare.length()) / 2;
            rule(3, "a type that is left" + at(tree), NUMBERS.contains(bare) && depth <= 2
                    || isOwn && depth <= 1 || type.equals("java.lang.String"));
            if (e.getKind() == ElementKind.FIELD && e.getModifiers().contains(Modifier.STATIC)) {
                rule(5, "static fields are final constants" + at(tree),
                        e.getModifiers().contains(Modifier.FINAL) && CONSTANTS.contains(type));
            }
            return super.visitVariable(tree, none);
        }

        @Override
        public Void visitMethodInvocation(MethodInvocationTree tree, Void none) {
            Element e = element(tree.getMethodSelect());
            if (e.getKind() == ElementKind.METHOD) {
                String name = fullName(e);
                rule(4, "own methods, and of the library what is left" + at(tree), isOwn(e) || LIBRARY.contains(name));
                calls.computeIfAbsent(methodAround(), k -> new TreeSet<>()).add(name);
                MethodTree around = around(MethodTree.class);
                rule(12, "a constructor calls nothing" + at(tree),
                        around == null || !around.getName().contentEquals("<init>"));
            }
            return super.visitMethodInvocation(tree, none);
        }

        @Override
        public Void visitMemberSelect(MemberSelectTree tree, Void none) {
            Element e = here();
            if (e != null && e.getKind() == ElementKind.FIELD) {
                boolean isLength = tree.getIdentifier().contentEquals("length") && type(tree.getExpression()).endsWith("[]");
                rule(4, "no constant of the library" + at(tree), isLength || isOwn(e));
            }
            return super.visitMemberSelect(tree, none);
        }

        @Override
        public Void visitIdentifier(IdentifierTree tree, Void none) {
            Element e = here();
            if (e instanceof TypeElement && !isOwn(e)) {
                String name = ((TypeElement) e).getQualifiedName().toString();
                rule(4, "no class of the library but what is left" + at(tree), Set.of("java.lang.String", "java.lang.Math",
                        "java.util.NoSuchElementException").contains(name));
            }
            return super.visitIdentifier(tree, none);
        }

        @Override
        public Void visitThrow(ThrowTree tree, Void none) {
            boolean isNew = tree.getExpression() instanceof NewClassTree;
            rule(6, "a new exception" + at(tree), isNew);
            if (isNew) {
                NewClassTree made = (NewClassTree) tree.getExpression();
                List<? extends ExpressionTree> told = made.getArguments();
                rule(6, "one of seven" + at(tree), THROWN.contains(made.getIdentifier().toString()));
                rule(6, "a written text" + at(tree), told.isEmpty() || told.size() == 1 && told.get(0) instanceof LiteralTree);
            }
            MethodTree around = around(MethodTree.class);
            rule(6, "no throw in a constructor" + at(tree), around != null && around.getReturnType() != null);
            return super.visitThrow(tree, none);
        }

        @Override
        public Void visitNewClass(NewClassTree tree, Void none) {
            MethodTree around = around(MethodTree.class);
            boolean isMadeWithIt = around == null || around.getReturnType() == null;
            boolean isThrown = getCurrentPath().getParentPath().getLeaf() instanceof ThrowTree;
            rule(12, "objects are made in constructors" + at(tree), isMadeWithIt || isThrown);
            rule(2, "no class without a name" + at(tree), tree.getClassBody() == null);
            return super.visitNewClass(tree, none);
        }

        @Override
        public Void visitNewArray(NewArrayTree tree, Void none) {
            MethodTree around = around(MethodTree.class);
            rule(12, "arrays are made in constructors" + at(tree), around == null || around.getReturnType() == null);
            rule(12, "no array in a loop" + at(tree), !isInLoop());
            return super.visitNewArray(tree, none);
        }

        @Override
        public Void visitBinary(BinaryTree tree, Void none) {
            boolean isText = type(tree.getLeftOperand()).equals("java.lang.String")
                    || type(tree.getRightOperand()).equals("java.lang.String");
            rule(10, "texts are neither joined by + nor compared by ==" + at(tree), !isText);
            return super.visitBinary(tree, none);
        }

        @Override
        public Void visitTypeCast(TypeCastTree tree, Void none) {
            rule(6, "casts of numbers alone" + at(tree), NUMBERS.contains(tree.getType().toString()));
            return super.visitTypeCast(tree, none);
        }

        private Void leftOut(int number, Tree tree) {
            rule(number, "left out" + at(tree), false);
            return null;
        }

        @Override
        public Void visitTry(TryTree tree, Void none) {
            return leftOut(6, tree);
        }

        @Override
        public Void visitSynchronized(SynchronizedTree tree, Void none) {
            return leftOut(6, tree);
        }

        @Override
        public Void visitAssert(AssertTree tree, Void none) {
            return leftOut(6, tree);
        }

        @Override
        public Void visitInstanceOf(InstanceOfTree tree, Void none) {
            return leftOut(6, tree);
        }

        @Override
        public Void visitLambdaExpression(LambdaExpressionTree tree, Void none) {
            return leftOut(2, tree);
        }

        @Override
        public Void visitMemberReference(MemberReferenceTree tree, Void none) {
            return leftOut(2, tree);
        }

        /** What only the whole file shows. */
        void whole() {
            rule(11, "some twelve classes, not " + classes, classes <= 12);
            for (String name : hidden) {
                rule(1, name + " bears no public one's name", !face.contains(name));
            }
            rule(1, "the face is found", face.size() > 40);
            for (String name : calls.keySet()) {
                boolean isSelfCalling = calls.get(name).contains(name);
                rule(8, name + " calls itself", !isSelfCalling || name.equals("LongerHalf.Turns.findFrom"));
                int deep = depth(name, 0);
                rule(11, name + " goes eight calls deep, not " + deep, deep <= 8);
            }
        }

        /** How many calls stand open at most, one that calls itself counted once. */
        private int depth(String name, int above) {
            int deepest = 0;
            if (above <= 20) {
                for (String called : calls.getOrDefault(name, Set.of())) {
                    if (!called.equals(name)) {
                        deepest = Math.max(deepest, depth(called, above + 1));
                    }
                }
            }
            return deepest + 1;
        }
    }
}
