import com.sun.source.tree.BlockTree;
import com.sun.source.tree.ClassTree;
import com.sun.source.tree.CompilationUnitTree;
import com.sun.source.tree.LineMap;
import com.sun.source.tree.MethodInvocationTree;
import com.sun.source.tree.MethodTree;
import com.sun.source.tree.NewArrayTree;
import com.sun.source.tree.NewClassTree;
import com.sun.source.tree.Tree;
import com.sun.source.tree.VariableTree;
import com.sun.source.util.JavacTask;
import com.sun.source.util.TreePathScanner;
import com.sun.source.util.Trees;
import java.io.File;
import java.util.ArrayList;
import java.util.Arrays;
import java.util.EnumSet;
import java.util.HashSet;
import java.util.LinkedHashMap;
import java.util.List;
import java.util.Map;
import java.util.Set;
import java.util.TreeSet;
import javax.lang.model.element.Element;
import javax.lang.model.element.ExecutableElement;
import javax.lang.model.element.Modifier;
import javax.tools.JavaCompiler;
import javax.tools.StandardJavaFileManager;
import javax.tools.ToolProvider;

/** Holds src/main/java/LeftHands.java against those rules of LANGUAGE.md that can be counted. */
public final class LanguageTest {
    private static final String FILE = "src/main/java/LeftHands.java";
    private static final Set<Tree.Kind> RULED_OUT = EnumSet.of(
        Tree.Kind.THROW, Tree.Kind.TRY, Tree.Kind.CATCH, Tree.Kind.SYNCHRONIZED, Tree.Kind.ASSERT,
        Tree.Kind.LAMBDA_EXPRESSION, Tree.Kind.MEMBER_REFERENCE, Tree.Kind.SWITCH_EXPRESSION);
    private static final Set<String> LIBRARY = new HashSet<>(Arrays.asList(
        "java.lang.String.length", "java.lang.String.charAt", "java.lang.Math.max", "java.lang.Math.min",
        "java.lang.Integer.bitCount", "java.lang.System.arraycopy", "java.util.Arrays.fill", "java.lang.Object.<init>"));
    private static final String FACE = "NONE LeftHands() stand(III) put(III) of(II) load(IIIIII) fact(II) drop(I) terms(II)"
        + " feed(IIIII) end(I) row() dropped() law() fault() force(I) way(II) enter(II) day(II) where(II) held(III)"
        + " choke() swaps(II) swap(II) home(I) cost(I) sent(I) income(I) answer(II) restless() rests(I) pieces(I)"
        + " sign(II) clear() thieves() meet(III) draw(I) drawn(II) image(I) back(I) count(I) status()";

    private static int wrong = 0;
    private static Trees trees;
    private static LineMap lines;
    private static int classes = 0;
    private static final Map<Element, Set<Element>> calls = new LinkedHashMap<>();

    private LanguageTest() { }

    private static void fault(String what) {
        wrong++;
        System.out.println(what);
    }

    public static void main(String[] args) throws Exception {
        JavaCompiler javac = ToolProvider.getSystemJavaCompiler();
        StandardJavaFileManager files = javac.getStandardFileManager(null, null, null);
        JavacTask task = (JavacTask) javac.getTask(null, files, null, List.of("-proc:none"), null,
            files.getJavaFileObjects(new File(FILE)));
        trees = Trees.instance(task);
        CompilationUnitTree unit = task.parse().iterator().next();
        task.analyze();
        lines = unit.getLineMap();
        new Scanner().scan(unit, null);
        if (classes > 12) fault("rule 11: " + classes + " classes");
        face();
        depth();
        System.out.println(wrong == 0 ? "the rules that can be counted are kept" : wrong + " rules broken");
        if (wrong != 0) System.exit(1);
    }

    private static void face() {
        Set<String> want = new TreeSet<>(Arrays.asList(FACE.split(" ")));
        Set<String> got = new TreeSet<>();
        for (java.lang.reflect.Method m : LeftHands.class.getDeclaredMethods()) {
            boolean open = java.lang.reflect.Modifier.isPublic(m.getModifiers());
            if (open && m.getReturnType() == int.class) got.add(m.getName() + "(" + "I".repeat(m.getParameterCount()) + ")");
            else if (!java.lang.reflect.Modifier.isPrivate(m.getModifiers())) fault("rule 1: " + m);
        }
        for (java.lang.reflect.Constructor<?> c : LeftHands.class.getDeclaredConstructors()) got.add("LeftHands(" + "I".repeat(c.getParameterCount()) + ")");
        for (java.lang.reflect.Field f : LeftHands.class.getDeclaredFields()) {
            if (!java.lang.reflect.Modifier.isPrivate(f.getModifiers())) got.add(f.getName());
        }
        if (!got.equals(want)) fault("rule 1: the face is " + got);
    }

    // The longest row of calls in which no method stands twice.
    private static void depth() {
        for (Element m : calls.keySet()) {
            List<String> path = longest(m, new HashSet<>());
            if (path.size() > 8) fault("rule 11: " + path.size() + " deep: " + path);
            if (reaches(m) && !m.getSimpleName().toString().startsWith("read")) fault("rule 8: recursion in " + m);
        }
    }

    private static boolean reaches(Element m) {
        Set<Element> seen = new HashSet<>();
        List<Element> open = new ArrayList<>(calls.get(m));
        while (!open.isEmpty()) {
            Element next = open.remove(open.size() - 1);
            if (seen.add(next)) open.addAll(calls.getOrDefault(next, Set.of()));
        }
        return seen.contains(m);
    }

    private static List<String> longest(Element m, Set<Element> above) {
        List<String> best = List.of();
        above.add(m);
        for (Element next : calls.getOrDefault(m, Set.of())) {
            if (above.contains(next)) continue;
            List<String> path = longest(next, above);
            if (path.size() > best.size()) best = path;
        }
        above.remove(m);
        List<String> whole = new ArrayList<>();
        whole.add(m.getSimpleName().toString());
        whole.addAll(best);
        return whole;
    }

    private static final class Scanner extends TreePathScanner<Void, Void> {
        private Element method;
        private boolean making;
        private static final Set<String> faceNames = new HashSet<>();

        static {
            for (String name : FACE.split(" ")) if (name.contains("(")) faceNames.add(name.substring(0, name.indexOf('(')));
        }

        @Override
        public Void scan(Tree tree, Void none) {
            if (tree != null && RULED_OUT.contains(tree.getKind())) fault("ruled out: " + tree.getKind() + " " + tree);
            return super.scan(tree, none);
        }

        @Override
        public Void visitClass(ClassTree tree, Void none) {
            classes++;
            String name = tree.getSimpleName().toString();
            Set<Modifier> flags = tree.getModifiers().getFlags();
            if (!name.equals("LeftHands") && !flags.contains(Modifier.STATIC)) fault("rule 2: " + name);
            int fields = 0;
            for (Tree member : tree.getMembers()) {
                if (member instanceof BlockTree) fault("rule 5: an initialiser block in " + name);
                if (member instanceof VariableTree) {
                    Set<Modifier> its = ((VariableTree) member).getModifiers().getFlags();
                    if (!its.contains(Modifier.STATIC)) fields++;
                    else if (!its.contains(Modifier.FINAL)) fault("rule 5: " + member);
                }
            }
            if (fields > 20) fault("rule 11: " + fields + " fields in " + name);
            return super.visitClass(tree, none);
        }

        @Override
        public Void visitMethod(MethodTree tree, Void none) {
            Element before = method;
            boolean madeBefore = making;
            method = trees.getElement(getCurrentPath());
            making = tree.getReturnType() == null;
            calls.put(method, new HashSet<>());
            if (tree.getParameters().size() > 7) fault("rule 11: parameters of " + tree.getName());
            boolean open = tree.getModifiers().getFlags().contains(Modifier.PUBLIC);
            if (!open && faceNames.contains(tree.getName().toString())) fault("rule 1: the name of " + tree.getName());
            if (tree.getBody() != null) {
                long from = lines.getLineNumber(trees.getSourcePositions().getStartPosition(getCurrentPath().getCompilationUnit(), tree));
                long till = lines.getLineNumber(trees.getSourcePositions().getEndPosition(getCurrentPath().getCompilationUnit(), tree));
                if (till - from >= 60) fault("rule 11: " + (till - from + 1) + " lines in " + tree.getName());
            }
            super.visitMethod(tree, none);
            method = before;
            making = madeBefore;
            return null;
        }

        @Override
        public Void visitMethodInvocation(MethodInvocationTree tree, Void none) {
            Element called = trees.getElement(new com.sun.source.util.TreePath(getCurrentPath(), tree.getMethodSelect()));
            if (called instanceof ExecutableElement) {
                String owner = called.getEnclosingElement().toString();
                if (owner.startsWith("LeftHands")) {
                    if (method != null) calls.get(method).add(called);
                } else if (!LIBRARY.contains(owner + "." + called.getSimpleName())) {
                    fault("rule 4: " + owner + "." + called.getSimpleName());
                }
            }
            return super.visitMethodInvocation(tree, none);
        }

        // The room is for all calls of a run: whatever is made is made with the object.
        @Override
        public Void visitNewClass(NewClassTree tree, Void none) {
            if (method != null && !making) fault("made in a call: " + tree);
            if (tree.getClassBody() != null) fault("rule 2: " + tree);
            return super.visitNewClass(tree, none);
        }

        @Override
        public Void visitNewArray(NewArrayTree tree, Void none) {
            if (method != null && !making) fault("made in a call: " + tree);
            return super.visitNewArray(tree, none);
        }
    }
}
