import com.sun.source.tree.ClassTree;
import com.sun.source.tree.CompilationUnitTree;
import com.sun.source.tree.ImportTree;
import com.sun.source.tree.MethodInvocationTree;
import com.sun.source.tree.MethodTree;
import com.sun.source.tree.NewClassTree;
import com.sun.source.tree.Tree;
import com.sun.source.tree.Tree.Kind;
import com.sun.source.tree.VariableTree;
import com.sun.source.util.JavacTask;
import com.sun.source.util.SourcePositions;
import com.sun.source.util.TreePathScanner;
import com.sun.source.util.Trees;
import java.io.File;
import java.io.IOException;
import java.util.EnumSet;
import java.util.HashMap;
import java.util.HashSet;
import java.util.LinkedHashMap;
import java.util.LinkedHashSet;
import java.util.List;
import java.util.Map;
import java.util.Set;
import javax.lang.model.element.Element;
import javax.lang.model.element.Modifier;
import javax.tools.JavaCompiler;
import javax.tools.StandardJavaFileManager;
import javax.tools.ToolProvider;

/** The rules of shared/LANGUAGE.md that can be counted or seen in the program's tree, told by their numbers. */
public final class LanguageTest extends TreePathScanner<Void, Void> {
    private static final String PROGRAM = "src/main/java/MuseumNights.java";
    private static final int CLASSES = 12;
    private static final int FIELDS_OF_CLASS = 20;
    private static final int LINES_OF_METHOD = 60;
    private static final int PARAMETERS = 7;
    private static final int DEPTH_OF_CALLS = 8;
    private static final Set<Kind> FORBIDDEN = EnumSet.of(
        Kind.THROW, Kind.TRY, Kind.SYNCHRONIZED, Kind.ASSERT, Kind.LAMBDA_EXPRESSION, Kind.MEMBER_REFERENCE);
    private static final Set<String> IMPORTS = Set.of(
        "java.util.Arrays", "java.util.ArrayList", "java.util.List", "java.util.Iterator");
    /** What rule 4 lists, but for the functions of Integer, Long and Math. */
    private static final Map<String, Set<String>> LIBRARY = Map.ofEntries(
        Map.entry("java.lang.Object", Set.of("<init>")),
        Map.entry("java.lang.Enum", Set.of("<init>")),
        Map.entry("java.lang.Record", Set.of("<init>")),
        Map.entry("java.lang.String", Set.of(
            "<init>", "length", "charAt", "isEmpty", "equals", "indexOf", "substring", "toCharArray")),
        Map.entry("java.lang.StringBuilder", Set.of(
            "<init>", "append", "charAt", "setCharAt", "setLength", "deleteCharAt", "reverse", "length", "toString")),
        Map.entry("java.util.ArrayList", Set.of("<init>", "add", "get", "set", "remove", "size", "isEmpty", "clear")),
        Map.entry("java.util.List", Set.of("of", "add", "get", "set", "remove", "size", "isEmpty", "clear")),
        Map.entry("java.util.Iterator", Set.of("hasNext", "next")),
        Map.entry("java.lang.Iterable", Set.of("iterator")),
        Map.entry("java.lang.Comparable", Set.of("compareTo")),
        Map.entry("java.lang.System", Set.of("arraycopy")),
        Map.entry("java.util.Arrays", Set.of("copyOf", "copyOfRange", "fill")),
        Map.entry("Array", Set.of("clone")));
    private static final Set<String> NUMBERS = Set.of("java.lang.Integer", "java.lang.Long", "java.lang.Math");

    private final CompilationUnitTree unit;
    private final Trees trees;
    private final Map<Element, Set<Element>> calls = new LinkedHashMap<>();
    private final Set<String> faceNames = new HashSet<>();
    private Element method;
    private int classes = 0;

    private LanguageTest(CompilationUnitTree unit, Trees trees) {
        this.unit = unit;
        this.trees = trees;
    }

    public static void main(String[] args) throws IOException {
        JavaCompiler compiler = ToolProvider.getSystemJavaCompiler();
        try (StandardJavaFileManager files = compiler.getStandardFileManager(null, null, null)) {
            JavacTask task = (JavacTask) compiler.getTask(null, files, null, List.of("-proc:none"), null,
                files.getJavaFileObjects(new File(PROGRAM)));
            CompilationUnitTree unit = task.parse().iterator().next();
            task.analyze();
            new LanguageTest(unit, Trees.instance(task)).look();
        }
        Check.end();
    }

    private void look() {
        Check.holds("1: no package", unit.getPackageName() == null);
        for (ImportTree line : unit.getImports()) {
            Check.holds("4: import " + line, IMPORTS.contains(line.getQualifiedIdentifier().toString()));
        }
        Check.due("1: classes of the file's own", unit.getTypeDecls().size(), 1);
        for (Tree member : ((ClassTree) unit.getTypeDecls().get(0)).getMembers()) {
            if (member instanceof MethodTree each && each.getModifiers().getFlags().contains(Modifier.PUBLIC)) {
                faceNames.add(each.getName().toString());
            }
        }
        faceNames.remove("<init>");
        scan(unit, null);
        Check.holds("11: " + classes + " classes", classes <= CLASSES);
        Map<Element, Integer> depths = new HashMap<>();
        for (Element each : calls.keySet()) {
            int depth = depth(each, depths, new HashSet<>());
            Check.holds("11: calls of " + each + " go " + depth + " deep", depth <= DEPTH_OF_CALLS);
        }
    }

    /** How deep the calls of a method go; a method that calls itself is counted once (rule 8). */
    private int depth(Element of, Map<Element, Integer> depths, Set<Element> open) {
        if (depths.containsKey(of)) {
            return depths.get(of);
        }
        open.add(of);
        int deepest = 0;
        for (Element called : calls.getOrDefault(of, Set.of())) {
            if (!open.contains(called)) {
                deepest = Math.max(deepest, depth(called, depths, open));
            }
        }
        open.remove(of);
        depths.put(of, deepest + 1);
        return deepest + 1;
    }

    private long line(Tree tree) {
        return unit.getLineMap().getLineNumber(trees.getSourcePositions().getStartPosition(unit, tree));
    }

    @Override
    public Void scan(Tree tree, Void nothing) {
        if (tree != null) {
            Check.holds("2 or 6: " + tree.getKind() + ", line " + line(tree), !FORBIDDEN.contains(tree.getKind()));
        }
        return super.scan(tree, nothing);
    }

    @Override
    public Void visitClass(ClassTree tree, Void nothing) {
        classes++;
        Set<Modifier> flags = tree.getModifiers().getFlags();
        boolean isFace = tree.getSimpleName().contentEquals("MuseumNights");
        boolean isStatic = flags.contains(Modifier.STATIC) || tree.getKind() != Kind.CLASS;
        Check.holds("2: " + tree.getSimpleName() + " is static", isFace || isStatic);
        int fields = 0;
        for (Tree member : tree.getMembers()) {
            Check.holds("5: no initialiser block in " + tree.getSimpleName(), member.getKind() != Kind.BLOCK);
            if (member instanceof VariableTree) {
                Set<Modifier> ofField = ((VariableTree) member).getModifiers().getFlags();
                boolean isShared = ofField.contains(Modifier.STATIC);
                boolean isFinal = ofField.contains(Modifier.FINAL);
                Check.holds("5: static fields are final, line " + line(member), !isShared || isFinal);
                fields += isShared ? 0 : 1;
            }
        }
        Check.holds("11: fields of " + tree.getSimpleName(), fields <= FIELDS_OF_CLASS);
        return super.visitClass(tree, nothing);
    }

    @Override
    public Void visitMethod(MethodTree tree, Void nothing) {
        Element outside = method;
        method = trees.getElement(getCurrentPath());
        calls.put(method, new LinkedHashSet<>());
        String name = tree.getName().toString();
        SourcePositions places = trees.getSourcePositions();
        long start = places.getStartPosition(unit, tree);
        if (start >= 0) {
            long lines = unit.getLineMap().getLineNumber(places.getEndPosition(unit, tree)) - line(tree) + 1;
            Check.holds("11: " + name + " has " + lines + " lines", lines <= LINES_OF_METHOD);
        }
        Check.holds("11: parameters of " + name, tree.getParameters().size() <= PARAMETERS);
        boolean isPublic = tree.getModifiers().getFlags().contains(Modifier.PUBLIC);
        Check.holds("1: " + name + " has a name of its own", isPublic || !faceNames.contains(name));
        Check.holds("6: " + name, !Set.of("equals", "hashCode", "toString").contains(name));
        super.visitMethod(tree, nothing);
        method = outside;
        return null;
    }

    @Override
    public Void visitMethodInvocation(MethodInvocationTree tree, Void nothing) {
        noteCall(trees.getElement(getCurrentPath()), tree);
        return super.visitMethodInvocation(tree, nothing);
    }

    @Override
    public Void visitNewClass(NewClassTree tree, Void nothing) {
        Check.holds("2: no anonymous class, line " + line(tree), tree.getClassBody() == null);
        noteCall(trees.getElement(getCurrentPath()), tree);
        return super.visitNewClass(tree, nothing);
    }

    private void noteCall(Element called, Tree tree) {
        String owner = called.getEnclosingElement().toString().replaceAll("<.*", "");
        String name = called.getSimpleName().toString();
        boolean isOwn = owner.startsWith("MuseumNights");
        boolean isOfNumbers = NUMBERS.contains(owner) && !name.endsWith("Exact") && !name.equals("random");
        boolean isListed = LIBRARY.getOrDefault(owner, Set.of()).contains(name);
        Check.holds("4: " + owner + "." + name + ", line " + line(tree), isOwn || isOfNumbers || isListed);
        if (method != null) {
            calls.get(method).add(called);
        }
    }
}
