import com.sun.source.tree.AssertTree;
import com.sun.source.tree.ClassTree;
import com.sun.source.tree.CompilationUnitTree;
import com.sun.source.tree.IdentifierTree;
import com.sun.source.tree.ImportTree;
import com.sun.source.tree.LambdaExpressionTree;
import com.sun.source.tree.MemberReferenceTree;
import com.sun.source.tree.MemberSelectTree;
import com.sun.source.tree.MethodInvocationTree;
import com.sun.source.tree.MethodTree;
import com.sun.source.tree.NewClassTree;
import com.sun.source.tree.SynchronizedTree;
import com.sun.source.tree.ThrowTree;
import com.sun.source.tree.Tree;
import com.sun.source.tree.TryTree;
import com.sun.source.tree.VariableTree;
import com.sun.source.util.JavacTask;
import com.sun.source.util.SourcePositions;
import com.sun.source.util.TreePathScanner;
import com.sun.source.util.Trees;
import java.io.IOException;
import java.io.PrintWriter;
import java.io.StringWriter;
import java.lang.reflect.Constructor;
import java.lang.reflect.Field;
import java.lang.reflect.Method;
import java.lang.reflect.Modifier;
import java.nio.file.Files;
import java.nio.file.Path;
import java.util.ArrayList;
import java.util.HashMap;
import java.util.List;
import java.util.Map;
import java.util.Set;
import java.util.TreeSet;
import java.util.regex.Matcher;
import java.util.regex.Pattern;
import java.util.spi.ToolProvider;
import javax.tools.JavaCompiler;
import javax.tools.StandardJavaFileManager;

/** What of LANGUAGE.md can be seen from the source and the compiled class. */
public final class LanguageTest {
    private static final Path SOURCE = Path.of("src/main/java/BentScreens.java");
    private static final Path DOC = Path.of("../shared/DOC.md");
    private static final int MOST_CLASSES = 12;
    private static final int MOST_FIELDS = 20;
    private static final int MOST_LINES = 60;
    private static final int MOST_PARAMETERS = 7;
    private static final int DEEPEST = 8;
    private static final Set<String> LIBRARY = Set.of("java.util.Arrays", "java.util.ArrayList", "java.util.List",
            "java.util.Iterator");
    private static final Set<String> CALLS = Set.of("Math.max", "Math.min", "Math.abs", "Integer.bitCount", "Arrays.fill",
            "System.arraycopy", "word.length", "word.charAt");

    private static int wrong = 0;

    private static void refuse(boolean bad, String what) {
        if (bad) {
            wrong++;
            System.out.println(what);
        }
    }

    public static void main(String[] args) throws IOException {
        face();
        source();
        depth();
        System.out.println(wrong == 0 ? "within the rules" : wrong + " rules broken");
        System.exit(wrong == 0 ? 0 : 1);
    }

    /** Rule 1: the members that can be seen are those of the document. */
    private static void face() throws IOException {
        String doc = Files.readString(DOC);
        String block = doc.substring(doc.indexOf("```java"), doc.indexOf("```", doc.indexOf("```java") + 7));
        Set<String> due = new TreeSet<>();
        Matcher m = Pattern.compile("public (\\w+) (\\w+)\\((.*?)\\);").matcher(block);
        while (m.find()) {
            due.add(m.group(1) + " " + m.group(2) + "(" + m.group(3).replaceAll(" \\w+(,|$)", "$1") + ")");
        }
        refuse(due.size() != 51, "the document's face has " + due.size() + " methods");
        Set<String> seen = new TreeSet<>();
        for (Method method : BentScreens.class.getDeclaredMethods()) {
            if (!Modifier.isPrivate(method.getModifiers()) && !method.isSynthetic()) {
                List<String> types = new ArrayList<>();
                for (Class<?> type : method.getParameterTypes()) {
                    types.add(type.getSimpleName());
                }
                refuse(!Modifier.isPublic(method.getModifiers()) || Modifier.isStatic(method.getModifiers()),
                        "not of the face: " + method);
                seen.add(method.getReturnType().getSimpleName() + " " + method.getName() + "(" + String.join(", ", types)
                        + ")");
            }
        }
        refuse(!due.equals(seen), "the face is " + seen + ", due is " + due);
        for (Field field : BentScreens.class.getDeclaredFields()) {
            boolean isNone = field.getName().equals("NONE");
            refuse(!isNone && !Modifier.isPrivate(field.getModifiers()), "not private: " + field);
        }
        for (Constructor<?> constructor : BentScreens.class.getDeclaredConstructors()) {
            refuse(constructor.getParameterCount() != 0, "another constructor: " + constructor);
        }
        refuse(!Modifier.isFinal(BentScreens.class.getModifiers()), "not final");
    }

    private static void source() throws IOException {
        JavaCompiler compiler = javax.tools.ToolProvider.getSystemJavaCompiler();
        try (StandardJavaFileManager files = compiler.getStandardFileManager(null, null, null)) {
            JavacTask task = (JavacTask) compiler.getTask(null, files, null, null, null, files.getJavaFileObjects(SOURCE));
            CompilationUnitTree unit = task.parse().iterator().next();
            refuse(unit.getPackageName() != null, "a package line");
            for (ImportTree line : unit.getImports()) {
                refuse(!LIBRARY.contains(line.getQualifiedIdentifier().toString()), "import " + line);
            }
            Rules rules = new Rules(unit, Trees.instance(task).getSourcePositions());
            rules.scan(unit, null);
            refuse(rules.classes > MOST_CLASSES, rules.classes + " classes");
        }
        for (String line : Files.readAllLines(SOURCE)) {
            refuse(line.length() > 120, "a long line: " + line);
            refuse(line.chars().anyMatch(c -> c > 126 || c < 32), "another sign: " + line);
        }
    }

    private static final class Rules extends TreePathScanner<Void, Void> {
        private final CompilationUnitTree unit;
        private final SourcePositions positions;
        private final Set<String> face = new TreeSet<>();
        int classes;

        Rules(CompilationUnitTree unit, SourcePositions positions) {
            this.unit = unit;
            this.positions = positions;
            for (Method method : BentScreens.class.getMethods()) {
                if (method.getDeclaringClass() == BentScreens.class) {
                    face.add(method.getName());
                }
            }
        }

        private long line(long position) {
            return unit.getLineMap().getLineNumber(position);
        }

        @Override
        public Void visitClass(ClassTree tree, Void p) {
            classes++;
            String name = tree.getSimpleName().toString();
            boolean isFace = name.equals("BentScreens");
            String flags = tree.getModifiers().toString();
            refuse(!isFace && !flags.contains("private static final"), "not private static final: " + name);
            int fields = 0;
            for (Tree member : tree.getMembers()) {
                if (member instanceof VariableTree field) {
                    String how = field.getModifiers().toString();
                    if (how.contains("static")) {
                        refuse(!how.contains("final"), "static and not final: " + field);
                        String type = field.getType().toString();
                        refuse(!Set.of("int", "long", "boolean", "char", "String", "int[]", "long[]", "char[]", "byte[]")
                                .contains(type), "a static field of another type: " + field);
                    } else {
                        fields++;
                    }
                }
                refuse(member.getKind() == Tree.Kind.BLOCK, "an initialiser block in " + name);
            }
            refuse(fields > MOST_FIELDS, fields + " fields in " + name);
            return super.visitClass(tree, p);
        }

        @Override
        public Void visitMethod(MethodTree tree, Void p) {
            String name = tree.getName().toString();
            long lines = line(positions.getEndPosition(unit, tree)) - line(positions.getStartPosition(unit, tree)) + 1;
            refuse(lines > MOST_LINES, name + " has " + lines + " lines");
            refuse(tree.getParameters().size() > MOST_PARAMETERS, name + " has many parameters");
            boolean isPublic = tree.getModifiers().toString().contains("public");
            refuse(!isPublic && face.contains(name), "a private method bears the name of a public one: " + name);
            refuse(!tree.getThrows().isEmpty(), name + " has throws");
            return super.visitMethod(tree, p);
        }

        @Override
        public Void visitMethodInvocation(MethodInvocationTree tree, Void p) {
            if (tree.getMethodSelect() instanceof MemberSelectTree select
                    && select.getExpression() instanceof IdentifierTree owner) {
                String name = owner + "." + select.getIdentifier();
                boolean library = Set.of("Math", "Integer", "Long", "Arrays", "System", "String", "word")
                        .contains(owner.toString());
                refuse(library && !CALLS.contains(name), "another call of the library: " + name);
                refuse(name.equals("Arrays.fill") && tree.getArguments().get(1).toString().matches("true|false"),
                        "fill over an array that is not of numbers: " + tree);
            }
            return super.visitMethodInvocation(tree, p);
        }

        @Override
        public Void visitNewClass(NewClassTree tree, Void p) {
            refuse(tree.getClassBody() != null, "an anonymous class");
            return super.visitNewClass(tree, p);
        }

        @Override
        public Void visitThrow(ThrowTree tree, Void p) {
            refuse(true, "throw");
            return super.visitThrow(tree, p);
        }

        @Override
        public Void visitTry(TryTree tree, Void p) {
            refuse(true, "try");
            return super.visitTry(tree, p);
        }

        @Override
        public Void visitAssert(AssertTree tree, Void p) {
            refuse(true, "assert");
            return super.visitAssert(tree, p);
        }

        @Override
        public Void visitSynchronized(SynchronizedTree tree, Void p) {
            refuse(true, "synchronized");
            return super.visitSynchronized(tree, p);
        }

        @Override
        public Void visitLambdaExpression(LambdaExpressionTree tree, Void p) {
            refuse(true, "a lambda");
            return super.visitLambdaExpression(tree, p);
        }

        @Override
        public Void visitMemberReference(MemberReferenceTree tree, Void p) {
            refuse(true, "a method reference");
            return super.visitMemberReference(tree, p);
        }
    }

    /** Rule 11: calls that are no recursion go at most eight deep. */
    private static void depth() {
        Map<String, Set<String>> calls = new HashMap<>();
        String place = Path.of(BentScreens.class.getProtectionDomain().getCodeSource().getLocation().getPath()).toString();
        List<String> names = new ArrayList<>(List.of("BentScreens"));
        for (Class<?> inside : BentScreens.class.getDeclaredClasses()) {
            names.add(inside.getName());
        }
        for (String name : names) {
            StringWriter out = new StringWriter();
            ToolProvider javap = ToolProvider.findFirst("javap").orElseThrow();
            javap.run(new PrintWriter(out), new PrintWriter(out), "-c", "-p", "-cp", place, name);
            readCalls(name, out.toString(), calls);
        }
        refuse(calls.size() < 100, "only " + calls.size() + " methods found");
        for (String method : calls.keySet()) {
            int deep = depthOf(method, calls, new ArrayList<>());
            refuse(deep > DEEPEST, method + " goes " + deep + " deep");
        }
    }

    private static void readCalls(String name, String code, Map<String, Set<String>> calls) {
        Pattern head = Pattern.compile("^  \\S.*?([\\w.$]+)\\(.*\\);$");
        Pattern call = Pattern.compile("// (?:Interface)?Method (\\S+?):");
        Set<String> now = new TreeSet<>();
        for (String line : code.split("\n")) {
            Matcher m = head.matcher(line);
            if (m.find()) {
                String method = m.group(1).equals(name) ? "<init>" : m.group(1);
                now = calls.computeIfAbsent(name + "." + method, k -> new TreeSet<>());
            }
            m = call.matcher(line);
            if (m.find()) {
                String target = m.group(1).replace("\"", "");
                now.add(target.contains(".") ? target : name + "." + target);
            }
        }
    }

    private static int depthOf(String method, Map<String, Set<String>> calls, List<String> open) {
        if (open.contains(method)) {
            return 0;
        }
        open.add(method);
        int deepest = 0;
        for (String target : calls.getOrDefault(method, Set.of())) {
            deepest = Math.max(deepest, depthOf(target, calls, open));
        }
        open.remove(open.size() - 1);
        return deepest + 1;
    }
}
