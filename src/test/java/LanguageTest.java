import com.sun.source.tree.AssertTree;
import com.sun.source.tree.ClassTree;
import com.sun.source.tree.CompilationUnitTree;
import com.sun.source.tree.ImportTree;
import com.sun.source.tree.LambdaExpressionTree;
import com.sun.source.tree.LiteralTree;
import com.sun.source.tree.MemberReferenceTree;
import com.sun.source.tree.MethodInvocationTree;
import com.sun.source.tree.MethodTree;
import com.sun.source.tree.NewArrayTree;
import com.sun.source.tree.NewClassTree;
import com.sun.source.tree.SynchronizedTree;
import com.sun.source.tree.ThrowTree;
import com.sun.source.tree.Tree;
import com.sun.source.tree.TryTree;
import com.sun.source.tree.TypeCastTree;
import com.sun.source.tree.VariableTree;
import com.sun.source.util.JavacTask;
import com.sun.source.util.TreePathScanner;
import com.sun.source.util.Trees;
import java.io.File;
import java.util.ArrayList;
import java.util.HashSet;
import java.util.List;
import java.util.Map;
import java.util.Set;
import java.util.TreeMap;
import java.util.TreeSet;
import javax.lang.model.element.Element;
import javax.lang.model.element.ElementKind;
import javax.lang.model.element.Modifier;
import javax.tools.JavaCompiler;
import javax.tools.StandardJavaFileManager;
import javax.tools.ToolProvider;

/** The rules of ../shared/LANGUAGE.md that can be looked up in the source, as far as the class makes use of them. */
public final class LanguageTest {
    private static final String FILE = "src/main/java/MirrorTube.java";
    private static final Set<String> LIBRARY = Set.of("java.lang.Math.abs", "java.lang.Math.max", "java.lang.Math.min",
            "java.lang.Math.floorMod", "java.lang.Math.floorDiv", "java.lang.Integer.bitCount",
            "java.lang.Integer.numberOfTrailingZeros", "java.lang.System.arraycopy");
    private static final Set<String> CONSTANTS = Set.of("int", "long", "boolean", "char", "String");

    private LanguageTest() {
    }

    public static void main(String[] args) throws Exception {
        JavaCompiler compiler = ToolProvider.getSystemJavaCompiler();
        try (StandardJavaFileManager files = compiler.getStandardFileManager(null, null, null)) {
            JavacTask task = (JavacTask) compiler.getTask(null, files, null, List.of("-proc:none"), null,
                    files.getJavaFileObjects(new File(FILE)));
            CompilationUnitTree unit = task.parse().iterator().next();
            task.analyze();
            Looker looker = new Looker(Trees.instance(task), unit);
            looker.scan(unit, null);
            looker.looksAtTheWhole();
        }
        Check.end();
    }

    private static final class Looker extends TreePathScanner<Void, Void> {
        private final Trees trees;
        private final CompilationUnitTree unit;
        private final Map<String, Set<String>> calls = new TreeMap<>();
        private String inside = "";
        private boolean making = true;
        private int classes;

        Looker(Trees trees, CompilationUnitTree unit) {
            this.trees = trees;
            this.unit = unit;
        }

        private void keeps(int rule, String what, Tree tree, boolean good) {
            long line = unit.getLineMap().getLineNumber(trees.getSourcePositions().getStartPosition(unit, tree));
            Check.due("rule " + rule + ", line " + line + ": " + what, good, true);
        }

        private int lines(Tree tree) {
            long from = trees.getSourcePositions().getStartPosition(unit, tree);
            long to = trees.getSourcePositions().getEndPosition(unit, tree);
            return (int) (unit.getLineMap().getLineNumber(to) - unit.getLineMap().getLineNumber(from)) + 1;
        }

        @Override
        public Void visitImport(ImportTree tree, Void none) {
            String name = tree.getQualifiedIdentifier().toString();
            keeps(4, "import of " + name, tree, name.equals("java.util.NoSuchElementException"));
            return super.visitImport(tree, none);
        }

        @Override
        public Void visitClass(ClassTree tree, Void none) {
            classes++;
            int fields = 0;
            for (Tree member : tree.getMembers()) {
                if (member instanceof VariableTree field) {
                    fields += field.getModifiers().getFlags().contains(Modifier.STATIC) ? 0 : 1;
                }
                keeps(5, "a block of its own", member, member.getKind() != Tree.Kind.BLOCK);
            }
            keeps(11, fields + " fields", tree, fields <= 20);
            String outer = inside;
            inside = tree.getSimpleName() + ".<init>";
            calls.computeIfAbsent(inside, k -> new TreeSet<>());
            super.visitClass(tree, none);
            inside = outer;
            return null;
        }

        @Override
        public Void visitMethod(MethodTree tree, Void none) {
            keeps(11, tree.getName() + " has " + tree.getParameters().size() + " parameters", tree,
                    tree.getParameters().size() <= 7);
            keeps(11, tree.getName() + " has " + lines(tree) + " lines", tree, lines(tree) <= 60);
            String outer = inside;
            inside = named(trees.getElement(getCurrentPath()));
            making = tree.getReturnType() == null;
            calls.computeIfAbsent(inside, k -> new TreeSet<>());
            super.visitMethod(tree, none);
            making = true;
            inside = outer;
            return null;
        }

        @Override
        public Void visitVariable(VariableTree tree, Void none) {
            Set<Modifier> flags = tree.getModifiers().getFlags();
            if (flags.contains(Modifier.STATIC)) {
                keeps(5, tree.getName() + " is a constant", tree,
                        flags.contains(Modifier.FINAL) && CONSTANTS.contains(tree.getType().toString()));
            }
            return super.visitVariable(tree, none);
        }

        @Override
        public Void visitMethodInvocation(MethodInvocationTree tree, Void none) {
            Element called = trees.getElement(getCurrentPath());
            boolean own = isOwn(called);
            String name = own ? named(called) : called.getEnclosingElement() + "." + called.getSimpleName();
            boolean makesAnObject = called.getKind() == ElementKind.CONSTRUCTOR;
            keeps(4, "call of " + name, tree, own || makesAnObject || LIBRARY.contains(name));
            if (!makesAnObject) {
                calls.computeIfAbsent(inside, k -> new TreeSet<>()).add(name);
            }
            return super.visitMethodInvocation(tree, none);
        }

        private static boolean isOwn(Element called) {
            String owner = called.getEnclosingElement().toString();
            return owner.equals("MirrorTube") || owner.startsWith("MirrorTube.");
        }

        private static String named(Element method) {
            return method.getEnclosingElement().getSimpleName() + "." + method.getSimpleName();
        }

        @Override
        public Void visitNewClass(NewClassTree tree, Void none) {
            String name = tree.getIdentifier().toString();
            boolean thrown = getCurrentPath().getParentPath().getLeaf() instanceof ThrowTree;
            // The room is shared by all calls, so whatever is made is made with the object.
            keeps(12, "a call makes a " + name, tree, thrown || making);
            keeps(2, "a class without a name", tree, tree.getClassBody() == null);
            if (!thrown) {
                calls.computeIfAbsent(inside, k -> new TreeSet<>()).add(name + ".<init>");
            }
            return super.visitNewClass(tree, none);
        }

        @Override
        public Void visitNewArray(NewArrayTree tree, Void none) {
            keeps(12, "a call makes an array", tree, making);
            return super.visitNewArray(tree, none);
        }

        @Override
        public Void visitThrow(ThrowTree tree, Void none) {
            keeps(6, inside + " throws", tree, inside.equals("MirrorTube.led")
                    && tree.getExpression().toString().equals("new NoSuchElementException()"));
            return super.visitThrow(tree, none);
        }

        @Override
        public Void visitTypeCast(TypeCastTree tree, Void none) {
            keeps(6, "cast to " + tree.getType(), tree, tree.getType().getKind() == Tree.Kind.PRIMITIVE_TYPE);
            return super.visitTypeCast(tree, none);
        }

        @Override
        public Void visitLiteral(LiteralTree tree, Void none) {
            boolean number = tree.getValue() instanceof Double || tree.getValue() instanceof Float;
            keeps(3, "a number with a point", tree, !number);
            return super.visitLiteral(tree, none);
        }

        @Override
        public Void visitLambdaExpression(LambdaExpressionTree tree, Void none) {
            keeps(2, "a lambda", tree, false);
            return super.visitLambdaExpression(tree, none);
        }

        @Override
        public Void visitMemberReference(MemberReferenceTree tree, Void none) {
            keeps(2, "a method reference", tree, false);
            return super.visitMemberReference(tree, none);
        }

        @Override
        public Void visitTry(TryTree tree, Void none) {
            keeps(6, "a try, where no own method throws", tree, false);
            return super.visitTry(tree, none);
        }

        @Override
        public Void visitSynchronized(SynchronizedTree tree, Void none) {
            keeps(6, "synchronized", tree, false);
            return super.visitSynchronized(tree, none);
        }

        @Override
        public Void visitAssert(AssertTree tree, Void none) {
            keeps(6, "assert", tree, false);
            return super.visitAssert(tree, none);
        }

        void looksAtTheWhole() {
            Check.due("rule 11: " + classes + " classes", classes <= 12, true);
            for (String method : calls.keySet()) {
                List<String> chain = longestChain(method, new HashSet<>());
                Check.due("rule 11: " + chain + " is " + chain.size() + " deep", chain.size() <= 8, true);
            }
            Check.due("the calls were followed down to the library",
                    longestChain("MirrorTube.look", new HashSet<>()).contains("java.lang.Math.floorMod"), true);
        }

        private List<String> longestChain(String method, Set<String> open) {
            List<String> longest = new ArrayList<>();
            open.add(method);
            for (String called : calls.getOrDefault(method, Set.of())) {
                Check.due("rule 8: " + called + " calls itself without a guard", open.contains(called), false);
                List<String> chain = open.contains(called) ? List.of(called) : longestChain(called, open);
                longest = chain.size() > longest.size() ? chain : longest;
            }
            open.remove(method);
            List<String> chain = new ArrayList<>(List.of(method));
            chain.addAll(longest);
            return chain;
        }
    }
}
