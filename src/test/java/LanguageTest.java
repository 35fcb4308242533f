import com.sun.source.tree.AssertTree;
import com.sun.source.tree.ClassTree;
import com.sun.source.tree.CompilationUnitTree;
import com.sun.source.tree.LambdaExpressionTree;
import com.sun.source.tree.MemberReferenceTree;
import com.sun.source.tree.MethodInvocationTree;
import com.sun.source.tree.MethodTree;
import com.sun.source.tree.NewClassTree;
import com.sun.source.tree.SynchronizedTree;
import com.sun.source.tree.ThrowTree;
import com.sun.source.tree.Tree;
import com.sun.source.tree.TryTree;
import com.sun.source.tree.VariableTree;
import com.sun.source.util.JavacTask;
import com.sun.source.util.TreePath;
import com.sun.source.util.TreePathScanner;
import com.sun.source.util.Trees;
import java.io.IOException;
import java.util.ArrayList;
import java.util.HashMap;
import java.util.HashSet;
import java.util.List;
import java.util.Map;
import java.util.Set;
import java.util.TreeMap;
import java.util.TreeSet;
import javax.lang.model.element.Element;
import javax.lang.model.element.Modifier;
import javax.tools.JavaCompiler;
import javax.tools.StandardJavaFileManager;
import javax.tools.ToolProvider;

/** The rules of ../shared/LANGUAGE.md that can be counted, in the program's source. */
public final class LanguageTest {
    private static final String MAIN = "src/main/java/MacroHouse.java";
    private static final Set<String> FACE =
            Set.of("put", "end", "expand", "about", "line", "constant", "macro");
    private static final Set<String> LIBRARY = Set.of("java.lang.Math.max", "java.lang.Math.min",
            "java.lang.String.length", "java.lang.String.charAt");
    private static final Set<String> THROWN = Set.of("IllegalArgumentException",
            "IndexOutOfBoundsException", "UnsupportedOperationException");

    public static void main(String[] args) throws IOException {
        House h = new House("LanguageTest");
        Source source = Source.read();
        h.says("rule 11: at most seven parameters, some sixty lines, some twelve classes, some "
                + "twenty fields");
        h.same("classes", source.classes <= 12, true);
        h.same("what is too long", source.tooLong, new TreeSet<>());
        h.says("rules 1, 2, 4, 5, 6: names, statements, library, static fields, exceptions");
        h.same("what is not of the language", source.strange, new TreeSet<>());
        h.says("rule 11: calls that are no recursion go at most eight deep");
        Calls calls = new Calls(source.calls);
        for (String name : FACE) {
            List<String> chain = calls.longest("MacroHouse." + name);
            h.same("the longest chain of " + name + " " + chain, chain.size() <= 8, true);
        }
        h.says("rule 8: recursion is of values alone, which carry their depth");
        h.same("what calls itself", calls.recursive(), new TreeSet<>(Set.of("Reader.readValue",
                "Reader.sum", "Reader.product", "Reader.factor", "Reader.bracketed")));
        h.done();
    }

    /** What stands in the program's source. */
    private static final class Source extends TreePathScanner<Void, Void> {
        private final Trees trees;
        private final CompilationUnitTree unit;
        private final Map<String, Set<String>> calls = new TreeMap<>();
        private final Set<String> tooLong = new TreeSet<>();
        private final Set<String> strange = new TreeSet<>();
        private String method = "";
        private int classes;

        private Source(Trees trees, CompilationUnitTree unit) {
            this.trees = trees;
            this.unit = unit;
        }

        static Source read() throws IOException {
            JavaCompiler compiler = ToolProvider.getSystemJavaCompiler();
            try (StandardJavaFileManager files =
                    compiler.getStandardFileManager(null, null, null)) {
                JavacTask task = (JavacTask) compiler.getTask(null, files, null, null, null,
                        files.getJavaFileObjects(MAIN));
                CompilationUnitTree unit = task.parse().iterator().next();
                task.analyze();
                Source source = new Source(Trees.instance(task), unit);
                source.scan(unit, null);
                return source;
            }
        }

        private long lineOf(long position) {
            return unit.getLineMap().getLineNumber(position);
        }

        private void refuse(String what, Tree tree) {
            strange.add(what + " in line "
                    + lineOf(trees.getSourcePositions().getStartPosition(unit, tree)));
        }

        private static String nameOf(Element called) {
            return called.getEnclosingElement().getSimpleName() + "." + called.getSimpleName();
        }

        private static boolean isOwn(Element called) {
            return called.getEnclosingElement().toString().startsWith("MacroHouse");
        }

        @Override
        public Void visitClass(ClassTree tree, Void none) {
            classes++;
            long fields = tree.getMembers().stream().filter(member -> member instanceof VariableTree
                    && !((VariableTree) member).getModifiers().getFlags().contains(Modifier.STATIC))
                    .count();
            if (fields > 20) {
                tooLong.add("fields of " + tree.getSimpleName());
            }
            return super.visitClass(tree, none);
        }

        @Override
        public Void visitVariable(VariableTree tree, Void none) {
            Set<Modifier> flags = tree.getModifiers().getFlags();
            if (flags.contains(Modifier.STATIC) && !flags.contains(Modifier.FINAL)) {
                refuse("a static field that may change", tree);
            }
            return super.visitVariable(tree, none);
        }

        @Override
        public Void visitMethod(MethodTree tree, Void none) {
            String outer = method;
            Element element = trees.getElement(getCurrentPath());
            method = nameOf(element);
            calls.computeIfAbsent(method, key -> new TreeSet<>());
            long lines = lineOf(trees.getSourcePositions().getEndPosition(unit, tree))
                    - lineOf(trees.getSourcePositions().getStartPosition(unit, tree));
            if (lines > 60 || tree.getParameters().size() > 7) {
                tooLong.add(method);
            }
            if (FACE.contains(tree.getName().toString()) && !method.startsWith("MacroHouse.")) {
                refuse("a name of the face", tree);
            }
            super.visitMethod(tree, none);
            method = outer;
            return null;
        }

        @Override
        public Void visitMethodInvocation(MethodInvocationTree tree, Void none) {
            Element called = trees.getElement(new TreePath(getCurrentPath(),
                    tree.getMethodSelect()));
            if (isOwn(called)) {
                calls.computeIfAbsent(method, key -> new TreeSet<>()).add(nameOf(called));
            } else if (!LIBRARY.contains(called.getEnclosingElement() + "."
                    + called.getSimpleName()) && !called.getSimpleName().contentEquals("<init>")) {
                refuse("a call of " + nameOf(called), tree);
            }
            return super.visitMethodInvocation(tree, none);
        }

        @Override
        public Void visitNewClass(NewClassTree tree, Void none) {
            Element made = trees.getElement(getCurrentPath());
            if (!isOwn(made) && getCurrentPath().getParentPath().getLeaf().getKind()
                    != Tree.Kind.THROW) {
                refuse("a new " + tree.getIdentifier(), tree);
            }
            return super.visitNewClass(tree, none);
        }

        @Override
        public Void visitThrow(ThrowTree tree, Void none) {
            boolean plain = tree.getExpression() instanceof NewClassTree
                    && THROWN.contains(((NewClassTree) tree.getExpression()).getIdentifier()
                            .toString());
            if (!plain || !FACE.contains(method.replace("MacroHouse.", ""))) {
                refuse("a throw", tree);
            }
            return super.visitThrow(tree, none);
        }

        @Override
        public Void visitTry(TryTree tree, Void none) {
            refuse("a try", tree);
            return super.visitTry(tree, none);
        }

        @Override
        public Void visitLambdaExpression(LambdaExpressionTree tree, Void none) {
            refuse("a lambda", tree);
            return super.visitLambdaExpression(tree, none);
        }

        @Override
        public Void visitMemberReference(MemberReferenceTree tree, Void none) {
            refuse("a method reference", tree);
            return super.visitMemberReference(tree, none);
        }

        @Override
        public Void visitSynchronized(SynchronizedTree tree, Void none) {
            refuse("synchronized", tree);
            return super.visitSynchronized(tree, none);
        }

        @Override
        public Void visitAssert(AssertTree tree, Void none) {
            refuse("assert", tree);
            return super.visitAssert(tree, none);
        }
    }

    /** Which method calls which; those that call one another count as one level. */
    private static final class Calls {
        private final Map<String, Set<String>> calls;
        private final Map<String, Set<String>> reached = new HashMap<>();

        Calls(Map<String, Set<String>> calls) {
            this.calls = calls;
            for (String method : calls.keySet()) {
                Set<String> found = new HashSet<>();
                reach(method, found);
                reached.put(method, found);
            }
        }

        private Set<String> calledBy(String method) {
            return calls.getOrDefault(method, Set.of());
        }

        private void reach(String method, Set<String> found) {
            for (String called : calledBy(method)) {
                if (found.add(called)) {
                    reach(called, found);
                }
            }
        }

        private boolean together(String one, String other) {
            return reached.getOrDefault(one, Set.of()).contains(other)
                    && reached.getOrDefault(other, Set.of()).contains(one);
        }

        Set<String> recursive() {
            Set<String> found = new TreeSet<>();
            for (String method : calls.keySet()) {
                if (together(method, method)) {
                    found.add(method);
                }
            }
            return found;
        }

        List<String> longest(String method) {
            List<String> best = new ArrayList<>();
            for (String level : calls.keySet()) {
                if (!level.equals(method) && !together(method, level)) {
                    continue;
                }
                for (String called : calledBy(level)) {
                    List<String> chain = together(method, called) ? List.of() : longest(called);
                    best = chain.size() > best.size() ? chain : best;
                }
            }
            List<String> all = new ArrayList<>(List.of(method));
            all.addAll(best);
            return all;
        }
    }
}
