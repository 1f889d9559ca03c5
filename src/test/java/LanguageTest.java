import com.sun.source.tree.ClassTree;
import com.sun.source.tree.CompilationUnitTree;
import com.sun.source.tree.ImportTree;
import com.sun.source.tree.LineMap;
import com.sun.source.tree.MethodInvocationTree;
import com.sun.source.tree.MethodTree;
import com.sun.source.tree.Tree;
import com.sun.source.tree.VariableTree;
import com.sun.source.util.JavacTask;
import com.sun.source.util.SourcePositions;
import com.sun.source.util.TreePathScanner;
import com.sun.source.util.Trees;
import java.io.File;
import java.io.IOException;
import java.lang.reflect.Constructor;
import java.lang.reflect.Field;
import java.lang.reflect.Method;
import java.lang.reflect.Modifier;
import java.util.Arrays;
import java.util.HashMap;
import java.util.HashSet;
import java.util.List;
import java.util.Map;
import java.util.Set;
import java.util.TreeSet;
import java.util.stream.Collectors;
import javax.lang.model.element.Name;
import javax.tools.JavaCompiler;
import javax.tools.StandardJavaFileManager;
import javax.tools.ToolProvider;

/** The face of the class, and those rules of LANGUAGE.md that can be read off the source; run from the project's root. */
public final class LanguageTest {
    private static final String SOURCE = "src/main/java/CheeseEar.java";
    private static final String[] FACE = {
        "int type(int,int)", "int wipe(int)", "int undo(int)", "int fault(int)", "int wheel(int,int)", "int warm(int)", "int set(int,int)",
        "int turning(int,int)", "int knock(int,int)", "int back(int)", "int read(int)", "int at(int,int,int)", "int longs(int)",
        "int scream(int)", "int chord(int,int)", "int hush()", "int ripe(int,int,int)", "int cold(int,int)", "int come(int,int)",
        "int sale()", "int listen(int,int,int)", "int forget()", "int never()", "int was(int,int)", "int ask(int)",
        "long frost(int,int,int,int,int)", "int summer(int,int,int)", "int sheet(int,int,int)", "int lose(int)", "int put(int,int,int,int)",
        "int get(int,int,int)", "int copy(int,int,int,int,int)", "int write(int,int)", "int count(int)", "long digest()"};
    private static final Set<Tree.Kind> FORBIDDEN = Set.of(Tree.Kind.THROW, Tree.Kind.TRY, Tree.Kind.CATCH, Tree.Kind.SYNCHRONIZED,
        Tree.Kind.ASSERT, Tree.Kind.LAMBDA_EXPRESSION, Tree.Kind.MEMBER_REFERENCE, Tree.Kind.SWITCH_EXPRESSION);

    private LanguageTest() {
    }

    public static void main(String[] args) throws IOException {
        face();
        source();
        memory();
        Check.close("LanguageTest");
    }

    private static void face() {
        Class<?> c = CheeseEar.class;
        Check.holds("public and final", Modifier.isPublic(c.getModifiers()) && Modifier.isFinal(c.getModifiers()));
        Set<String> open = new TreeSet<>();
        Set<String> openNames = new HashSet<>();
        for (Method m : c.getDeclaredMethods()) {
            if (Modifier.isPrivate(m.getModifiers()) || m.isSynthetic()) continue;
            String kinds = Arrays.stream(m.getParameterTypes()).map(Class::getName).collect(Collectors.joining(","));
            String sign = m.getReturnType().getName() + " " + m.getName() + "(" + kinds + ")";
            open.add(Modifier.toString(m.getModifiers()).equals("public") ? sign : Modifier.toString(m.getModifiers()) + " " + sign);
            openNames.add(m.getName());
        }
        Set<String> due = new TreeSet<>(Arrays.asList(FACE));
        Check.holds("the methods are those of the face: " + open, open.equals(due));
        for (Method m : c.getDeclaredMethods()) {
            boolean clash = Modifier.isPrivate(m.getModifiers()) && openNames.contains(m.getName());
            Check.holds("no private method bears a public name: " + m.getName(), !clash);
        }
        Constructor<?>[] made = c.getDeclaredConstructors();
        Check.holds("one public constructor", made.length == 1 && made[0].getParameterCount() == 0 && Modifier.isPublic(made[0].getModifiers()));
        Set<String> constants = new TreeSet<>();
        for (Field f : c.getDeclaredFields()) {
            int m = f.getModifiers();
            if (!Modifier.isPrivate(m)) constants.add(Modifier.toString(m) + " " + f.getType() + " " + f.getName());
            Check.holds("static fields are final: " + f.getName(), !Modifier.isStatic(m) || Modifier.isFinal(m));
        }
        String head = "public static final int ";
        Check.holds("the constants", constants.equals(new TreeSet<>(List.of(head + "NONE", head + "BAD", head + "NOT", head + "FULL"))));
        Check.due("NONE", CheeseEar.NONE, -1);
        Check.due("BAD", CheeseEar.BAD, -2);
        Check.due("NOT", CheeseEar.NOT, -3);
        Check.due("FULL", CheeseEar.FULL, -4);
        for (Class<?> inner : c.getDeclaredClasses()) {
            Check.holds("static inside: " + inner, Modifier.isStatic(inner.getModifiers()) && !Modifier.isPublic(inner.getModifiers()));
            long fields = Arrays.stream(inner.getDeclaredFields()).filter(f -> !Modifier.isStatic(f.getModifiers())).count();
            Check.holds("some twenty fields: " + inner, fields <= 20);
        }
        Check.holds("at most twelve classes", 1 + c.getDeclaredClasses().length <= 12);
    }

    private static void source() throws IOException {
        JavaCompiler compiler = ToolProvider.getSystemJavaCompiler();
        try (StandardJavaFileManager files = compiler.getStandardFileManager(null, null, null)) {
            JavacTask task = (JavacTask) compiler.getTask(null, files, null, null, null, files.getJavaFileObjects(new File(SOURCE)));
            CompilationUnitTree unit = task.parse().iterator().next();
            Check.holds("no package", unit.getPackageName() == null);
            for (ImportTree i : unit.getImports()) {
                Check.holds("only Arrays: " + i, i.getQualifiedIdentifier().toString().equals("java.util.Arrays"));
            }
            Reader reader = new Reader(unit, Trees.instance(task).getSourcePositions());
            reader.scan(unit, null);
            for (String name : reader.calls.keySet()) {
                Check.holds("calls go at most eight deep from " + name, reader.depth(name, 0) <= 8);
            }
        }
    }

    /** Goes through the source once. */
    private static final class Reader extends TreePathScanner<Void, Void> {
        final Map<String, Set<String>> calls = new HashMap<>();
        private final CompilationUnitTree unit;
        private final SourcePositions places;
        private String method = "";

        Reader(CompilationUnitTree unit, SourcePositions places) {
            this.unit = unit;
            this.places = places;
        }

        /** By names alone, so at least as deep as it is. */
        int depth(String name, int above) {
            int deepest = 0;
            for (String called : calls.getOrDefault(name, Set.of())) {
                if (above < 20) deepest = Math.max(deepest, depth(called, above + 1));
            }
            return 1 + deepest;
        }

        @Override
        public Void scan(Tree tree, Void v) {
            if (tree != null) {
                Check.holds("not in the language: " + tree.getKind() + " " + tree, !FORBIDDEN.contains(tree.getKind()));
            }
            return super.scan(tree, v);
        }

        @Override
        public Void visitMethod(MethodTree m, Void v) {
            String outer = method;
            method = m.getName().contentEquals("<init>") ? "" : m.getName().toString();
            LineMap lines = unit.getLineMap();
            long first = lines.getLineNumber(places.getStartPosition(unit, m));
            long last = lines.getLineNumber(places.getEndPosition(unit, m));
            Check.holds("a short method: " + m.getName(), last - first < 60);
            Check.holds("at most seven parameters: " + m.getName(), m.getParameters().size() <= 7);
            if (!method.isEmpty()) calls.putIfAbsent(method, new HashSet<>());
            super.visitMethod(m, v);
            method = outer;
            return null;
        }

        @Override
        public Void visitMethodInvocation(MethodInvocationTree call, Void v) {
            String[] parts = call.getMethodSelect().toString().split("\\.");
            boolean library = Set.of("Math", "Integer", "Arrays", "System").contains(parts[0]);
            if (!library && !method.isEmpty()) calls.get(method).add(parts[parts.length - 1]);
            return super.visitMethodInvocation(call, v);
        }

        @Override
        public Void visitClass(ClassTree c, Void v) {
            boolean named = !c.getSimpleName().isEmpty();
            Check.holds("no anonymous class, no local one", named && method.isEmpty());
            return super.visitClass(c, v);
        }

        @Override
        public Void visitNewClass(com.sun.source.tree.NewClassTree n, Void v) {
            Check.holds("objects are made in constructors: " + n, method.isEmpty());
            return super.visitNewClass(n, v);
        }

        @Override
        public Void visitNewArray(com.sun.source.tree.NewArrayTree n, Void v) {
            Check.holds("rows are made in constructors: " + n, method.isEmpty());
            return super.visitNewArray(n, v);
        }

        @Override
        public Void visitVariable(VariableTree variable, Void v) {
            Name name = variable.getName();
            Check.holds("a type of the language: " + name, !variable.getType().toString().matches(".*(String|double|float|Object).*"));
            return super.visitVariable(variable, v);
        }
    }

    /** After the constructor no call makes an object: what the machine counts for this thread stays as it was. */
    private static void memory() {
        com.sun.management.ThreadMXBean counter = (com.sun.management.ThreadMXBean) java.lang.management.ManagementFactory.getThreadMXBean();
        everyCall(counter);
        long made = everyCall(counter);
        Check.holds("no call makes objects, bytes made: " + made, made <= 0);
    }

    private static long everyCall(com.sun.management.ThreadMXBean counter) {
        CheeseEar x = Check.ear("h00abcde;s01bca;b02hgfed;h03dd", "372918465");
        long before = counter.getCurrentThreadAllocatedBytes();
        x.digest();
        x.sheet(0, 0, 60);
        x.put(0, 0, 1, 1);
        x.get(0, 0, 1);
        x.copy(0, 0, 0, 1, 4);
        x.read(0);
        x.write(0, 0);
        x.turning(3, 0);
        x.knock(3, 0);
        x.listen(0, 0, 0);
        x.at(3, 0, 0);
        x.ripe(0, 29, 1);
        x.ask(0);
        x.frost(5, 9, 0, 29, 0);
        x.summer(1, 30, 0);
        x.type(0, 'x');
        x.undo(0);
        x.sheet(0, 0, -1);
        x.lose(0);
        x.wipe(0);
        return counter.getCurrentThreadAllocatedBytes() - before;
    }
}
