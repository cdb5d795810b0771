import com.sun.source.tree.ArrayTypeTree;
import com.sun.source.tree.ClassTree;
import com.sun.source.tree.CompilationUnitTree;
import com.sun.source.tree.ExpressionTree;
import com.sun.source.tree.IdentifierTree;
import com.sun.source.tree.MemberSelectTree;
import com.sun.source.tree.MethodInvocationTree;
import com.sun.source.tree.MethodTree;
import com.sun.source.tree.NewArrayTree;
import com.sun.source.tree.NewClassTree;
import com.sun.source.tree.ThrowTree;
import com.sun.source.tree.Tree;
import com.sun.source.util.JavacTask;
import com.sun.source.util.SourcePositions;
import com.sun.source.util.TreeScanner;
import com.sun.source.util.Trees;
import java.io.IOException;
import java.nio.file.Path;
import java.util.ArrayList;
import java.util.HashSet;
import java.util.List;
import java.util.Map;
import java.util.Set;
import java.util.TreeMap;
import java.util.TreeSet;
import javax.tools.JavaCompiler;
import javax.tools.StandardJavaFileManager;
import javax.tools.ToolProvider;

/** What ../shared/LANGUAGE.md says of methods: how long they are, how deep they call, what they make and what they use. */
public final class SighTreatiesShape {
    private static final Path SOURCE = Path.of("src/main/java/SighTreaties.java");
    private static final int MOST_DEEP = 8;
    private static final int MOST_LINES = 60;
    private static final Set<String> LIBRARY = Set.of("System.arraycopy", "Math.min", "Math.max", "Integer.bitCount");
    private static final Set<String> THROWN =
        Set.of("IndexOutOfBoundsException", "IllegalArgumentException", "IllegalStateException");

    private static int wrong;

    private final CompilationUnitTree unit;
    private final SourcePositions positions;
    /** The names that a method calls, by its own name: methods of one name count as one, which is only stricter. */
    private final Map<String, Set<String>> called = new TreeMap<>();
    private final Map<String, Integer> depths = new TreeMap<>();

    private SighTreatiesShape(CompilationUnitTree unit, SourcePositions positions) {
        this.unit = unit;
        this.positions = positions;
    }

    private static void due(String what, boolean holds) {
        if (!holds) {
            wrong++;
            System.out.println(what);
        }
    }

    private long lineAt(long position) {
        return unit.getLineMap().getLineNumber(position);
    }

    private long linesOf(Tree tree) {
        return lineAt(positions.getEndPosition(unit, tree)) - lineAt(positions.getStartPosition(unit, tree)) + 1;
    }

    private String placeOf(Tree tree) {
        return "line " + lineAt(positions.getStartPosition(unit, tree)) + ": ";
    }

    /** Walks through the whole text; knows the method and the throw statement that it is in. */
    private final class Walk extends TreeScanner<Void, Void> {
        private String className = "";
        private String method = "";
        private boolean isInConstructor;
        private boolean isInThrow;

        @Override
        public Void visitClass(ClassTree tree, Void nothing) {
            String outer = className;
            className = tree.getSimpleName().toString();
            super.visitClass(tree, nothing);
            className = outer;
            return null;
        }

        @Override
        public Void visitMethod(MethodTree tree, Void nothing) {
            String name = tree.getName().toString();
            isInConstructor = name.equals("<init>");
            method = isInConstructor ? "new " + className : name;
            called.computeIfAbsent(method, key -> new TreeSet<>());
            due(placeOf(tree) + name + " is too long", linesOf(tree) <= MOST_LINES);
            super.visitMethod(tree, nothing);
            method = "";
            isInConstructor = false;
            return null;
        }

        @Override
        public Void visitThrow(ThrowTree tree, Void nothing) {
            isInThrow = true;
            due(placeOf(tree) + "a throw in a constructor", !isInConstructor);
            super.visitThrow(tree, nothing);
            isInThrow = false;
            return null;
        }

        @Override
        public Void visitNewClass(NewClassTree tree, Void nothing) {
            String made = tree.getIdentifier().toString();
            if (isInThrow) {
                due(placeOf(tree) + made + " is thrown", THROWN.contains(made));
            } else {
                due(placeOf(tree) + made + " is made in a call", isInConstructor || method.isEmpty());
                note("new " + made);
            }
            return super.visitNewClass(tree, nothing);
        }

        @Override
        public Void visitNewArray(NewArrayTree tree, Void nothing) {
            due(placeOf(tree) + "a row is made in a call", isInConstructor || method.isEmpty());
            return super.visitNewArray(tree, nothing);
        }

        @Override
        public Void visitArrayType(ArrayTypeTree tree, Void nothing) {
            due(placeOf(tree) + "a row of rows", tree.getType().getKind() != Tree.Kind.ARRAY_TYPE);
            return super.visitArrayType(tree, nothing);
        }

        @Override
        public Void visitMethodInvocation(MethodInvocationTree tree, Void nothing) {
            ExpressionTree select = tree.getMethodSelect();
            if (select instanceof IdentifierTree) {
                note(((IdentifierTree) select).getName().toString());
            } else if (select instanceof MemberSelectTree) {
                noteOfOther((MemberSelectTree) select);
            }
            return super.visitMethodInvocation(tree, nothing);
        }

        private void noteOfOther(MemberSelectTree select) {
            String owner = select.getExpression().toString();
            if (!owner.isEmpty() && Character.isUpperCase(owner.charAt(0))) {
                due(placeOf(select) + select + " is not looked for here", LIBRARY.contains(select.toString()));
            } else {
                note(select.getIdentifier().toString());
            }
        }

        private void note(String name) {
            if (!method.isEmpty()) {
                called.get(method).add(name);
            }
        }
    }

    private int depthOf(String name, List<String> open) {
        if (open.contains(name)) {
            due(name + " calls itself: " + open, false);
            return 0;
        }
        Integer known = depths.get(name);
        if (known != null) {
            return known;
        }
        List<String> opened = new ArrayList<>(open);
        opened.add(name);
        int deepest = 0;
        for (String next : called.getOrDefault(name, new HashSet<>())) {
            deepest = Math.max(deepest, depthOf(next, opened));
        }
        depths.put(name, deepest + 1);
        return deepest + 1;
    }

    private void testAll() {
        new Walk().scan(unit, null);
        due("only " + called.size() + " methods were read", called.size() > 66);
        for (String name : called.keySet()) {
            int depth = depthOf(name, new ArrayList<>());
            due(name + " goes " + depth + " deep", depth <= MOST_DEEP);
        }
    }

    public static void main(String[] args) throws IOException {
        JavaCompiler compiler = ToolProvider.getSystemJavaCompiler();
        try (StandardJavaFileManager files = compiler.getStandardFileManager(null, null, null)) {
            JavacTask task = (JavacTask) compiler.getTask(null, files, null, null, null, files.getJavaFileObjects(SOURCE));
            for (CompilationUnitTree unit : task.parse()) {
                new SighTreatiesShape(unit, Trees.instance(task).getSourcePositions()).testAll();
            }
        }
        System.out.println(wrong == 0 ? "the shape is as told" : wrong + " faults of the shape");
        if (wrong != 0) {
            System.exit(1);
        }
    }
}
