import com.sun.source.tree.AnnotationTree;
import com.sun.source.tree.ClassTree;
import com.sun.source.tree.CompilationUnitTree;
import com.sun.source.tree.LineMap;
import com.sun.source.tree.MethodInvocationTree;
import com.sun.source.tree.MethodTree;
import com.sun.source.tree.NewArrayTree;
import com.sun.source.tree.NewClassTree;
import com.sun.source.tree.Tree;
import com.sun.source.tree.VariableTree;
import com.sun.source.util.JavacTask;
import com.sun.source.util.TreePath;
import com.sun.source.util.TreePathScanner;
import com.sun.source.util.Trees;
import java.lang.reflect.Constructor;
import java.lang.reflect.Field;
import java.lang.reflect.Method;
import java.lang.reflect.Modifier;
import java.nio.charset.StandardCharsets;
import java.nio.file.Files;
import java.nio.file.Path;
import java.util.ArrayList;
import java.util.Arrays;
import java.util.EnumSet;
import java.util.LinkedHashMap;
import java.util.LinkedHashSet;
import java.util.List;
import java.util.Map;
import java.util.Set;
import java.util.TreeSet;
import java.util.regex.Matcher;
import java.util.regex.Pattern;
import javax.lang.model.element.Element;
import javax.lang.model.type.TypeMirror;
import javax.tools.StandardJavaFileManager;
import javax.tools.ToolProvider;

// The class has the document's face and no other, and keeps to those rules of LANGUAGE.md that its text can tell.
public final class LanguageTest {
    private static final Path SOURCE = Path.of("src/main/java/DoFinder.java");
    private static final Path DOCUMENT = Path.of("../shared/DOC.md");
    private static final int MOST_LINES = 60;
    private static final int MOST_CLASSES = 12;
    private static final int MOST_FIELDS = 20;
    private static final int MOST_PARAMETERS = 7;
    private static final int MOST_DEEP = 8;

    private static final String[] FACE = {"int NUMBER", "int FULL", "int NONE", "int KIND", "long BAD", "long UNKNOWN",
        "long NOTHING", "DoFinder()", "int step(int)", "int scrap()", "int add(int)", "int mend(int,int,int)",
        "int of(int,int)", "long run(int,int,int)", "int fuel(int,int,int)", "int limit(int)", "int ask(int)",
        "int show(int,int,int)", "int leave(int,int,boolean)", "int drop()", "int like(int,int)",
        "long would(int,int,int)", "int found(int)", "int open(int)", "int joint(int)", "int near(int)",
        "int misses(int)", "int parting(int)", "int many(int)", "int same(int,int)", "int differ(int,int)",
        "int first(int)"};

    /** What rules 2, 3, 6 and 10 leave out, and what the class does without, so that it need not be looked into. */
    private static final Set<Tree.Kind> RULED_OUT = EnumSet.of(Tree.Kind.THROW, Tree.Kind.TRY, Tree.Kind.CATCH,
        Tree.Kind.SYNCHRONIZED, Tree.Kind.ASSERT, Tree.Kind.LAMBDA_EXPRESSION, Tree.Kind.MEMBER_REFERENCE,
        Tree.Kind.IMPORT, Tree.Kind.PACKAGE, Tree.Kind.INSTANCE_OF, Tree.Kind.NULL_LITERAL, Tree.Kind.STRING_LITERAL,
        Tree.Kind.DOUBLE_LITERAL, Tree.Kind.FLOAT_LITERAL, Tree.Kind.ENHANCED_FOR_LOOP, Tree.Kind.WHILE_LOOP,
        Tree.Kind.DO_WHILE_LOOP, Tree.Kind.SWITCH_EXPRESSION, Tree.Kind.REMAINDER_ASSIGNMENT,
        Tree.Kind.DIVIDE_ASSIGNMENT, Tree.Kind.PARAMETERIZED_TYPE);

    private static int wrong = 0;

    private static void hold(boolean holds, String rule) {
        if (!holds) {
            wrong++;
            System.out.println("broken: " + rule);
        }
    }

    // ---- the face

    private static String types(Class<?>[] types) {
        return "(" + String.join(",", Arrays.stream(types).map(Class::getName).toList()) + ")";
    }

    private static void face() {
        Set<String> visible = new TreeSet<>();
        for (Field field : DoFinder.class.getDeclaredFields()) {
            if (!Modifier.isPrivate(field.getModifiers())) {
                visible.add(field.getType() + " " + field.getName());
                hold(field.getModifiers() == (Modifier.PUBLIC | Modifier.STATIC | Modifier.FINAL), field.getName());
            }
        }
        for (Constructor<?> constructor : DoFinder.class.getDeclaredConstructors()) {
            visible.add("DoFinder" + types(constructor.getParameterTypes()));
            hold(constructor.getModifiers() == Modifier.PUBLIC, "the constructor is public");
        }
        Set<String> open = new TreeSet<>();
        for (Method method : DoFinder.class.getDeclaredMethods()) {
            if (!Modifier.isPrivate(method.getModifiers())) {
                open.add(method.getName());
                visible.add(method.getReturnType() + " " + method.getName() + types(method.getParameterTypes()));
                hold(method.getModifiers() == Modifier.PUBLIC, method.getName() + " is public alone");
            }
        }
        hold(visible.equals(new TreeSet<>(Arrays.asList(FACE))), "the face: " + visible);
        hold(DoFinder.class.getModifiers() == (Modifier.PUBLIC | Modifier.FINAL), "the class is public and final");
        inside(DoFinder.class, open);
    }

    private static void inside(Class<?> outer, Set<String> open) {
        hold(outer.getDeclaredClasses().length + 1 <= MOST_CLASSES, "some twelve classes");
        fields(outer);
        names(outer, open);
        for (Class<?> inner : outer.getDeclaredClasses()) {
            hold(Modifier.isStatic(inner.getModifiers()), inner + " is static");
            hold(!Modifier.isPublic(inner.getModifiers()), inner + " isn't public");
            fields(inner);
            names(inner, open);
        }
    }

    private static void names(Class<?> owner, Set<String> open) {
        for (Method method : owner.getDeclaredMethods()) {
            boolean ofTheFace = Modifier.isPublic(method.getModifiers());
            hold(ofTheFace || !open.contains(method.getName()), "no name of a public method: " + method);
        }
    }

    private static void fields(Class<?> owner) {
        int fields = 0;
        for (Field field : owner.getDeclaredFields()) {
            boolean ofTheClass = Modifier.isStatic(field.getModifiers());
            fields += ofTheClass ? 0 : 1;
            boolean constant = Modifier.isFinal(field.getModifiers()) && field.getType().isPrimitive();
            hold(!ofTheClass || constant, "static: " + field);
        }
        hold(fields <= MOST_FIELDS, "some twenty fields: " + owner);
    }

    /** Each line of the document's code block stands in the class, in the document's order. */
    private static void interfaceOf(String document, String source) {
        Matcher block = Pattern.compile("(?s)```java\\n(.*?)```").matcher(document);
        hold(block.find(), "the document has a code block");
        int from = 0;
        int lines = 0;
        for (String line : block.group(1).split("\n")) {
            String due = line.endsWith(");") ? line.substring(0, line.length() - 1) + " {" : line;
            int at = source.indexOf("\n" + due + "\n", from);
            hold(line.equals("}") || at >= 0, "in the document's order: " + line);
            from = Math.max(at, from);
            lines++;
        }
        hold(lines == FACE.length + 2, "all of the face: " + lines);
    }

    /** "Ahead of the calls .. the interface says: ---- routines", and so on. */
    private static void headings(String document, String source) {
        Pattern ahead = Pattern.compile("Ahead of the calls (.*?) the interface says: (---- .*?)\\.");
        List<String> due = new ArrayList<>();
        for (Matcher told = ahead.matcher(document); told.find();) {
            due.add(told.group(2));
            due.addAll(Arrays.asList(told.group(1).replace("`", "").split(", ")));
        }
        List<String> written = new ArrayList<>();
        Pattern heading = Pattern.compile("\n    (?:// (---- .*)|public \\w+ (\\w+)\\()");
        for (Matcher found = heading.matcher(source); found.find();) {
            written.add(found.group(1) != null ? found.group(1) : found.group(2));
        }
        hold(due.size() == 28 && written.equals(due), "ahead of the calls: " + written);
    }

    // ---- the text

    /** Looks at each place of the text, and keeps which method calls which. */
    private static final class Reader extends TreePathScanner<Void, Void> {
        private final Trees trees;
        private final CompilationUnitTree unit;
        private final Map<Element, Set<Element>> calls = new LinkedHashMap<>();

        Reader(Trees trees, CompilationUnitTree unit) {
            this.trees = trees;
            this.unit = unit;
        }

        private long line(long position) {
            LineMap lines = unit.getLineMap();
            return lines.getLineNumber(position);
        }

        private String where(Tree tree) {
            return " at line " + line(trees.getSourcePositions().getStartPosition(unit, tree));
        }

        /** The method in which a place stands; null for what a field is made with. */
        private MethodTree around() {
            for (TreePath path = getCurrentPath(); path != null; path = path.getParentPath()) {
                if (path.getLeaf() instanceof MethodTree method) {
                    return method;
                }
            }
            return null;
        }

        @Override
        public Void scan(Tree tree, Void nothing) {
            if (tree != null) {
                hold(!RULED_OUT.contains(tree.getKind()), tree.getKind() + where(tree));
            }
            return super.scan(tree, nothing);
        }

        @Override
        public Void visitClass(ClassTree tree, Void nothing) {
            hold(!tree.getSimpleName().isEmpty() && around() == null, "no local or anonymous class" + where(tree));
            return super.visitClass(tree, nothing);
        }

        @Override
        public Void visitAnnotation(AnnotationTree tree, Void nothing) {
            hold(false, "nothing of another class is overridden" + where(tree));
            return super.visitAnnotation(tree, nothing);
        }

        @Override
        public Void visitMethod(MethodTree tree, Void nothing) {
            calls.putIfAbsent(trees.getElement(getCurrentPath()), new LinkedHashSet<>());
            hold(tree.getParameters().size() <= MOST_PARAMETERS, "seven parameters" + where(tree));
            // A constructor that the class leaves to the compiler has no end of its own.
            long end = trees.getSourcePositions().getEndPosition(unit, tree);
            long start = trees.getSourcePositions().getStartPosition(unit, tree);
            hold(end < 0 || line(end) - line(start) < MOST_LINES, tree.getName() + " is long" + where(tree));
            return super.visitMethod(tree, nothing);
        }

        @Override
        public Void visitVariable(VariableTree tree, Void nothing) {
            TypeMirror type = trees.getTypeMirror(new TreePath(getCurrentPath(), tree.getType()));
            hold(isTaken(type), "the type " + type + where(tree));
            return super.visitVariable(tree, nothing);
        }

        /** Numbers, truths and classes of its own, and rows of these: all that the class needs of rule 3. */
        private static boolean isTaken(TypeMirror type) {
            String name = type.toString().replaceFirst("\\[\\]$", "");
            return List.of("int", "long", "boolean").contains(name) || name.startsWith("DoFinder.");
        }

        @Override
        public Void visitMethodInvocation(MethodInvocationTree tree, Void nothing) {
            called(trees.getElement(new TreePath(getCurrentPath(), tree.getMethodSelect())), tree);
            return super.visitMethodInvocation(tree, nothing);
        }

        @Override
        public Void visitNewClass(NewClassTree tree, Void nothing) {
            hold(tree.getClassBody() == null, "no anonymous class" + where(tree));
            madeInConstructors(tree);
            called(trees.getElement(getCurrentPath()), tree);
            return super.visitNewClass(tree, nothing);
        }

        @Override
        public Void visitNewArray(NewArrayTree tree, Void nothing) {
            madeInConstructors(tree);
            hold(tree.getDimensions().size() == 1, "rows of one dimension" + where(tree));
            return super.visitNewArray(tree, nothing);
        }

        /** No rule asks for this, but it keeps the room small: the calls make nothing at all. */
        private void madeInConstructors(Tree tree) {
            MethodTree method = around();
            hold(method == null || method.getName().contentEquals("<init>"), "made in a call" + where(tree));
        }

        private void called(Element what, Tree tree) {
            String name = what.getEnclosingElement() + "." + what.getSimpleName();
            boolean library = name.equals("java.lang.System.arraycopy") || name.equals("java.lang.Object.<init>");
            hold(library || name.startsWith("DoFinder."), "a library's " + name + where(tree));
            MethodTree caller = around();
            if (caller != null && !library) {
                Element from = trees.getElement(trees.getPath(unit, caller));
                calls.computeIfAbsent(from, method -> new LinkedHashSet<>()).add(what);
            }
        }

        /** How many calls stand open at most, that of the method itself among them; too many if it calls itself. */
        private int deep(Element method, int open) {
            int most = 1;
            for (Element next : calls.getOrDefault(method, Set.of())) {
                most = Math.max(most, open > MOST_DEEP ? MOST_DEEP + 1 : 1 + deep(next, open + 1));
            }
            return most;
        }

        void depths() {
            for (Element method : calls.keySet()) {
                hold(deep(method, 1) <= MOST_DEEP, "eight calls deep: " + method.getEnclosingElement() + "." + method);
            }
        }
    }

    private static void read() throws Exception {
        try (StandardJavaFileManager files =
            ToolProvider.getSystemJavaCompiler().getStandardFileManager(null, null, StandardCharsets.UTF_8)) {
            JavacTask task = (JavacTask) ToolProvider.getSystemJavaCompiler().getTask(null, files, null,
                List.of("-proc:none"), null, files.getJavaFileObjects(SOURCE));
            CompilationUnitTree unit = task.parse().iterator().next();
            task.analyze();
            Reader reader = new Reader(Trees.instance(task), unit);
            reader.scan(new TreePath(unit), null);
            reader.depths();
            hold(unit.getTypeDecls().size() == 1, "one class");
            hold(reader.calls.size() > FACE.length - 8, "the calls were read");
        }
    }

    private static void signs(String source) {
        hold(source.chars().allMatch(sign -> sign < 128), "signs up to 127");
        String[] lines = source.split("\n");
        for (int i = 0; i < lines.length; i++) {
            hold(lines[i].length() <= 120, "line " + (i + 1) + " is long");
        }
    }

    public static void main(String[] args) throws Exception {
        String source = Files.readString(SOURCE, StandardCharsets.UTF_8);
        String document = Files.readString(DOCUMENT, StandardCharsets.UTF_8);
        face();
        interfaceOf(document, source);
        headings(document, source);
        read();
        signs(source);
        System.out.println(wrong == 0 ? "the language is kept to" : wrong + " rules are broken");
        if (wrong != 0) {
            System.exit(1);
        }
    }
}
