import com.sun.source.tree.ClassTree;
import com.sun.source.tree.CompilationUnitTree;
import com.sun.source.tree.IdentifierTree;
import com.sun.source.tree.LineMap;
import com.sun.source.tree.MemberSelectTree;
import com.sun.source.tree.MethodInvocationTree;
import com.sun.source.tree.MethodTree;
import com.sun.source.tree.NewClassTree;
import com.sun.source.tree.Tree;
import com.sun.source.tree.VariableTree;
import com.sun.source.util.JavacTask;
import com.sun.source.util.SourcePositions;
import com.sun.source.util.TreeScanner;
import com.sun.source.util.Trees;
import java.io.IOException;
import java.nio.file.Path;
import java.util.EnumSet;
import java.util.Map;
import java.util.Set;
import java.util.TreeMap;
import java.util.TreeSet;
import javax.lang.model.element.Modifier;
import javax.tools.JavaCompiler;
import javax.tools.StandardJavaFileManager;
import javax.tools.ToolProvider;

/** The rules of ../shared/LANGUAGE.md that can be seen in the source: "R" and the rule's number. */
final class LanguageTest {
    private static final int MOST_LINES = 60, MOST_PARAMETERS = 7, MOST_DEEP = 8, MOST_CLASSES = 12, MOST_FIELDS = 20;
    private static final Set<Tree.Kind> RULED_OUT = EnumSet.of(
            Tree.Kind.LAMBDA_EXPRESSION, Tree.Kind.MEMBER_REFERENCE, Tree.Kind.THROW, Tree.Kind.TRY,
            Tree.Kind.CATCH, Tree.Kind.SYNCHRONIZED, Tree.Kind.ASSERT, Tree.Kind.IMPORT, Tree.Kind.PACKAGE,
            Tree.Kind.ANNOTATION, Tree.Kind.SWITCH_EXPRESSION, Tree.Kind.STRING_LITERAL);
    /** What of the library the class uses: more would do by rule 4, but is looked at first. */
    private static final Set<String> LIBRARY = Set.of(
            "Math.abs", "Math.floorMod", "Math.max", "Math.min", "System.arraycopy");

    private final Map<String, Set<String>> calls = new TreeMap<>();
    private final Map<String, Long> lines = new TreeMap<>();
    private final Map<String, Integer> parameters = new TreeMap<>();
    private final Map<String, Integer> fields = new TreeMap<>();
    private final Set<String> onClasses = new TreeSet<>();
    private final Set<String> madeOf = new TreeSet<>();
    private final Set<String> outside = new TreeSet<>();
    private final Set<String> notFinal = new TreeSet<>();

    private LanguageTest() {
    }

    static void run(String source) {
        LanguageTest seen = new LanguageTest();
        seen.read(Path.of(source));
        Tests.run("R2, R3, R6: nothing that is ruled out", () -> none(seen.outside));
        Tests.run("R4: the library", seen::library);
        Tests.run("R5: static fields are final", () -> none(seen.notFinal));
        Tests.run("R8: no recursion; R11: calls at most eight deep", seen::depth);
        Tests.run("R11: sizes", seen::sizes);
    }

    private static void none(Set<String> found) {
        Tests.holds("there is " + found, found.isEmpty());
    }

    private void library() {
        for (String call : onClasses) {
            boolean own = fields.containsKey(call.substring(0, call.indexOf('.')));
            Tests.holds(call + " is of its own or of the library that it may use", own || LIBRARY.contains(call));
        }
        Tests.holds("objects are its own: " + madeOf, fields.keySet().containsAll(madeOf));
    }

    private void depth() {
        for (String method : calls.keySet()) {
            int deep = depthOf(method, new TreeSet<>());
            Tests.holds(method + " goes " + deep + " deep", deep <= MOST_DEEP);
        }
    }

    /** Methods of one name count as one, so that this is never less than the true depth. */
    private int depthOf(String method, Set<String> open) {
        if (!open.add(method)) {
            Tests.holds(method + " calls itself: " + open, false);
            return 0;
        }
        int most = 0;
        for (String called : calls.get(method)) {
            if (calls.containsKey(called)) {
                most = Math.max(most, depthOf(called, open));
            }
        }
        open.remove(method);
        return most + 1;
    }

    private void sizes() {
        Tests.holds("methods are found: " + lines.keySet(), lines.containsKey("deal") && calls.get("undo").contains("copyTable"));
        lines.forEach((method, count) -> Tests.holds(method + " has " + count + " lines", count <= MOST_LINES));
        parameters.forEach((method, count) -> Tests.holds(method + " has " + count + " parameters", count <= MOST_PARAMETERS));
        fields.forEach((type, count) -> Tests.holds(type + " has " + count + " fields", count <= MOST_FIELDS));
        Tests.holds("classes: " + fields.keySet(), fields.size() <= MOST_CLASSES);
    }

    private void read(Path source) {
        JavaCompiler compiler = ToolProvider.getSystemJavaCompiler();
        try (StandardJavaFileManager files = compiler.getStandardFileManager(null, null, null)) {
            JavacTask task = (JavacTask) compiler.getTask(null, files, null, null, null, files.getJavaFileObjects(source));
            SourcePositions positions = Trees.instance(task).getSourcePositions();
            for (CompilationUnitTree unit : task.parse()) {
                new Reader(unit, positions).scan(unit, null);
            }
        } catch (IOException thrown) {
            throw new IllegalStateException(thrown);
        }
    }

    private final class Reader extends TreeScanner<Void, Void> {
        private final CompilationUnitTree unit;
        private final SourcePositions positions;
        private String method = "";

        Reader(CompilationUnitTree unit, SourcePositions positions) {
            this.unit = unit;
            this.positions = positions;
        }

        private long lineAt(long position) {
            LineMap map = unit.getLineMap();
            return map.getLineNumber(position);
        }

        @Override
        public Void scan(Tree tree, Void nothing) {
            if (tree != null && RULED_OUT.contains(tree.getKind())) {
                outside.add(tree.getKind() + " in line " + lineAt(positions.getStartPosition(unit, tree)));
            }
            return super.scan(tree, nothing);
        }

        @Override
        public Void visitClass(ClassTree type, Void nothing) {
            int own = 0;
            for (Tree member : type.getMembers()) {
                if (member instanceof VariableTree field) {
                    Set<Modifier> modifiers = field.getModifiers().getFlags();
                    boolean shared = modifiers.contains(Modifier.STATIC);
                    own += shared ? 0 : 1;
                    if (shared && !modifiers.contains(Modifier.FINAL)) {
                        notFinal.add(field.getName().toString());
                    }
                } else if (member.getKind() == Tree.Kind.BLOCK) {
                    outside.add("a block of " + type.getSimpleName());
                } else if (member instanceof ClassTree inner && inner.getKind() == Tree.Kind.CLASS
                        && !inner.getModifiers().getFlags().contains(Modifier.STATIC)) {
                    outside.add("a class that is not static: " + inner.getSimpleName());
                }
            }
            fields.put(type.getSimpleName().toString(), own);
            return super.visitClass(type, nothing);
        }

        @Override
        public Void visitMethod(MethodTree tree, Void nothing) {
            method = tree.getName().toString();
            calls.putIfAbsent(method, new TreeSet<>());
            long count = lineAt(positions.getEndPosition(unit, tree)) - lineAt(positions.getStartPosition(unit, tree)) + 1;
            lines.merge(method, count, Math::max);
            parameters.merge(method, tree.getParameters().size(), Math::max);
            super.visitMethod(tree, nothing);
            method = "";
            return null;
        }

        @Override
        public Void visitMethodInvocation(MethodInvocationTree call, Void nothing) {
            Tree called = call.getMethodSelect();
            if (called instanceof IdentifierTree name && !method.isEmpty()) {
                calls.get(method).add(name.getName().toString());
            } else if (called instanceof MemberSelectTree name && !method.isEmpty()) {
                calls.get(method).add(name.getIdentifier().toString());
                if (Character.isUpperCase(name.toString().charAt(0))) {
                    onClasses.add(name.toString());
                }
            }
            return super.visitMethodInvocation(call, nothing);
        }

        @Override
        public Void visitNewClass(NewClassTree made, Void nothing) {
            if (made.getClassBody() != null) {
                outside.add("a class with a body of its own: " + made.getIdentifier());
            }
            madeOf.add(made.getIdentifier().toString());
            return super.visitNewClass(made, nothing);
        }
    }
}
