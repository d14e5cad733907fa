import com.sun.source.tree.ArrayTypeTree;
import com.sun.source.tree.BinaryTree;
import com.sun.source.tree.ClassTree;
import com.sun.source.tree.CompilationUnitTree;
import com.sun.source.tree.LineMap;
import com.sun.source.tree.MethodInvocationTree;
import com.sun.source.tree.MethodTree;
import com.sun.source.tree.NewClassTree;
import com.sun.source.tree.Tree;
import com.sun.source.tree.VariableTree;
import com.sun.source.util.JavacTask;
import com.sun.source.util.SourcePositions;
import com.sun.source.util.TreePath;
import com.sun.source.util.TreePathScanner;
import com.sun.source.util.Trees;
import java.io.File;
import java.io.IOException;
import java.util.ArrayList;
import java.util.Arrays;
import java.util.EnumSet;
import java.util.HashSet;
import java.util.LinkedHashMap;
import java.util.LinkedHashSet;
import java.util.List;
import java.util.Map;
import java.util.Set;
import javax.lang.model.element.Element;
import javax.lang.model.element.Modifier;
import javax.tools.JavaCompiler;
import javax.tools.StandardJavaFileManager;
import javax.tools.ToolProvider;

/** The class keeps to those rules of LANGUAGE.md that can be read off its source. */
public final class LanguageTest extends TreePathScanner<Void, Void> {
    private static final String FILE = "src/main/java/NetMaps.java";
    private static final int DEEPEST = 8;
    private static final int LONGEST = 60;
    private static final int PARAMETERS = 7;
    private static final int CLASSES = 12;
    private static final int FIELDS = 20;

    private static final Set<Tree.Kind> RULED_OUT = EnumSet.of(
            Tree.Kind.TRY, Tree.Kind.THROW, Tree.Kind.CATCH, Tree.Kind.SYNCHRONIZED, Tree.Kind.ASSERT,
            Tree.Kind.LAMBDA_EXPRESSION, Tree.Kind.MEMBER_REFERENCE, Tree.Kind.IMPORT, Tree.Kind.ANNOTATION,
            Tree.Kind.SWITCH_EXPRESSION, Tree.Kind.BINDING_PATTERN, Tree.Kind.TYPE_CAST, Tree.Kind.PACKAGE,
            Tree.Kind.PARAMETERIZED_TYPE, Tree.Kind.STRING_LITERAL);
    // What the class needs of the library; LANGUAGE.md allows more.
    private static final Set<String> LIBRARY = Set.of(
            "java.lang.Integer.bitCount", "java.lang.Math.max", "java.lang.Math.min");
    private static final Set<String> PLAIN = Set.of("int", "boolean", "int[]", "void");

    private final CompilationUnitTree unit;
    private final Trees trees;
    private final SourcePositions positions;
    private final Set<String> own = new HashSet<>();
    private final Map<String, Set<String>> calls = new LinkedHashMap<>();
    private final List<String> wrong = new ArrayList<>();
    private String method = "";

    private LanguageTest(CompilationUnitTree unit, Trees trees) {
        this.unit = unit;
        this.trees = trees;
        positions = trees.getSourcePositions();
    }

    public static void main(String[] args) throws IOException {
        JavaCompiler compiler = ToolProvider.getSystemJavaCompiler();
        StandardJavaFileManager files = compiler.getStandardFileManager(null, null, null);
        JavacTask task = (JavacTask) compiler.getTask(null, files, null, List.of("-proc:none"), null,
                files.getJavaFileObjects(new File(FILE)));
        CompilationUnitTree unit = task.parse().iterator().next();
        task.analyze();
        LanguageTest test = new LanguageTest(unit, Trees.instance(task));
        test.look();
        for (String fault : test.wrong) {
            System.out.println("language: " + fault);
        }
        System.out.println(test.wrong.isEmpty() ? "the rules of the language are kept"
                : test.wrong.size() + " faults against the rules of the language");
        if (!test.wrong.isEmpty()) {
            System.exit(1);
        }
    }

    private void look() {
        for (Tree type : unit.getTypeDecls()) {
            own.add(((ClassTree) type).getSimpleName().toString());
            for (Tree member : ((ClassTree) type).getMembers()) {
                if (member instanceof ClassTree) {
                    own.add(((ClassTree) member).getSimpleName().toString());
                }
            }
        }
        if (unit.getTypeDecls().size() != 1 || own.size() > CLASSES) {
            wrong.add("classes: " + own);
        }
        scan(unit, null);
        for (String from : calls.keySet()) {
            int deep = deep(from, new LinkedHashSet<>());
            if (deep > DEEPEST) {
                wrong.add(from + " goes " + deep + " calls deep");
            }
        }
    }

    /** How many calls stand open at once, a call that comes back to itself counted once. */
    private int deep(String from, Set<String> open) {
        int deepest = 0;
        open.add(from);
        for (String to : calls.getOrDefault(from, Set.of())) {
            if (!open.contains(to)) {
                deepest = Math.max(deepest, deep(to, open));
            } else if (!to.equals(from)) {
                wrong.add(from + " and " + to + " call one another");
            }
        }
        open.remove(from);
        return deepest + 1;
    }

    private void fault(Tree tree, String what) {
        wrong.add("line " + line(positions.getStartPosition(unit, tree)) + ": " + what);
    }

    private long line(long position) {
        LineMap lines = unit.getLineMap();
        return lines.getLineNumber(position);
    }

    private Element element(Tree tree) {
        return trees.getElement(TreePath.getPath(unit, tree));
    }

    @Override
    public Void scan(Tree tree, Void nothing) {
        if (tree != null && RULED_OUT.contains(tree.getKind())) {
            fault(tree, tree.getKind() + " is ruled out");
        }
        return super.scan(tree, nothing);
    }

    @Override
    public Void visitClass(ClassTree type, Void nothing) {
        Set<Modifier> is = type.getModifiers().getFlags();
        boolean outer = type.getSimpleName().contentEquals("NetMaps");
        if (!outer && !is.contains(Modifier.STATIC)) {
            fault(type, "a class inside is not static");
        }
        int fields = 0;
        for (Tree member : type.getMembers()) {
            if (member.getKind() == Tree.Kind.BLOCK) {
                fault(member, "an initialiser block");
            }
            if (member instanceof VariableTree) {
                boolean shared = ((VariableTree) member).getModifiers().getFlags().contains(Modifier.STATIC);
                fields += shared ? 0 : 1;
                checkField((VariableTree) member, shared);
            }
        }
        if (fields > FIELDS) {
            fault(type, fields + " fields");
        }
        return super.visitClass(type, nothing);
    }

    private void checkField(VariableTree field, boolean shared) {
        if (shared && (!field.getModifiers().getFlags().contains(Modifier.FINAL)
                || !field.getType().toString().equals("int"))) {
            fault(field, "a static field that is no constant");
        }
    }

    @Override
    public Void visitVariable(VariableTree variable, Void nothing) {
        String type = variable.getType().toString();
        String each = type.endsWith("[]") ? type.substring(0, type.length() - 2) : type;
        if (!PLAIN.contains(type) && !own.contains(each)) {
            fault(variable, "type " + type);
        }
        return super.visitVariable(variable, nothing);
    }

    @Override
    public Void visitMethod(MethodTree tree, Void nothing) {
        Element element = element(tree);
        String outside = method;
        method = name(element);
        calls.putIfAbsent(method, new LinkedHashSet<>());
        long first = line(positions.getStartPosition(unit, tree));
        long last = line(Math.max(0, positions.getEndPosition(unit, tree)));
        if (last - first >= LONGEST) {
            fault(tree, method + " has " + (last - first + 1) + " lines");
        }
        if (tree.getParameters().size() > PARAMETERS) {
            fault(tree, method + " takes too many parameters");
        }
        boolean recursive = tree.getBody() != null && callsItself(tree);
        if (recursive && !tree.getModifiers().getFlags().containsAll(Set.of(Modifier.PRIVATE, Modifier.STATIC))) {
            fault(tree, method + " calls itself and is not private static");
        }
        super.visitMethod(tree, nothing);
        method = outside;
        return null;
    }

    private boolean callsItself(MethodTree tree) {
        String name = name(element(tree));
        boolean[] found = {false};
        new TreePathScanner<Void, Void>() {
            @Override
            public Void visitMethodInvocation(MethodInvocationTree call, Void nothing) {
                found[0] |= name(element(call)).equals(name);
                return super.visitMethodInvocation(call, nothing);
            }
        }.scan(TreePath.getPath(unit, tree), null);
        return found[0];
    }

    private static String name(Element element) {
        return element.getEnclosingElement() + "." + element.getSimpleName();
    }

    @Override
    public Void visitMethodInvocation(MethodInvocationTree call, Void nothing) {
        Element called = element(call);
        String name = name(called);
        if (called.getSimpleName().contentEquals("<init>")) {
            return super.visitMethodInvocation(call, nothing);
        }
        if (!name.startsWith("NetMaps.") && !LIBRARY.contains(name)) {
            fault(call, "calls " + name);
        }
        calls.computeIfAbsent(method, key -> new LinkedHashSet<>()).add(name);
        return super.visitMethodInvocation(call, nothing);
    }

    @Override
    public Void visitNewClass(NewClassTree made, Void nothing) {
        if (made.getClassBody() != null || !own.contains(made.getIdentifier().toString())) {
            fault(made, "makes " + made.getIdentifier());
        }
        calls.computeIfAbsent(method, key -> new LinkedHashSet<>()).add(name(element(made)));
        return super.visitNewClass(made, nothing);
    }

    @Override
    public Void visitArrayType(ArrayTypeTree type, Void nothing) {
        if (type.getType().getKind() == Tree.Kind.ARRAY_TYPE) {
            fault(type, "an array of arrays");
        }
        return super.visitArrayType(type, nothing);
    }

    @Override
    public Void visitBinary(BinaryTree tree, Void nothing) {
        boolean divides = Arrays.asList(Tree.Kind.DIVIDE, Tree.Kind.REMAINDER).contains(tree.getKind());
        // A divisor is a number written out, or a local one that was looked at.
        if (divides && !tree.getRightOperand().toString().matches("[1-9][0-9]*|m|base")) {
            fault(tree, "divides by " + tree.getRightOperand());
        }
        return super.visitBinary(tree, nothing);
    }
}
