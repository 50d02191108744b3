import com.sun.source.tree.AssertTree;
import com.sun.source.tree.BinaryTree;
import com.sun.source.tree.ClassTree;
import com.sun.source.tree.CompilationUnitTree;
import com.sun.source.tree.ExpressionTree;
import com.sun.source.tree.LambdaExpressionTree;
import com.sun.source.tree.LiteralTree;
import com.sun.source.tree.MemberReferenceTree;
import com.sun.source.tree.MethodInvocationTree;
import com.sun.source.tree.MethodTree;
import com.sun.source.tree.NewClassTree;
import com.sun.source.tree.SynchronizedTree;
import com.sun.source.tree.ThrowTree;
import com.sun.source.tree.Tree;
import com.sun.source.tree.TryTree;
import com.sun.source.tree.VariableTree;
import com.sun.source.util.JavacTask;
import com.sun.source.util.TreePathScanner;
import com.sun.source.util.Trees;
import java.io.IOException;
import java.net.URI;
import java.util.ArrayList;
import java.util.HashSet;
import java.util.LinkedHashMap;
import java.util.List;
import java.util.Map;
import java.util.Set;
import java.util.TreeMap;
import java.util.TreeSet;
import java.util.regex.Pattern;
import javax.lang.model.element.Element;
import javax.lang.model.element.ElementKind;
import javax.lang.model.element.ExecutableElement;
import javax.lang.model.element.Modifier;
import javax.lang.model.element.VariableElement;
import javax.tools.JavaFileObject;
import javax.tools.SimpleJavaFileObject;
import javax.tools.ToolProvider;

/**
 * What a program breaks of ../shared/LANGUAGE.md, as far as it can be read off its lines. The
 * compiler's own trees are asked, so that a name means here what it means to the compiler.
 */
final class Language extends TreePathScanner<Void, Void> {
    static final int DEEPEST = 8;
    private static final int MOST_PARAMETERS = 7;
    private static final int MOST_LINES = 60;
    private static final int MOST_CLASSES = 12;
    private static final int MOST_FIELDS = 20;

    private static final Set<String> EXCEPTIONS = Set.of(
        "IllegalStateException", "IllegalArgumentException", "IndexOutOfBoundsException", "ArithmeticException",
        "UnsupportedOperationException", "NoSuchElementException", "RuntimeException");
    private static final Pattern LIBRARY = Pattern.compile(
        "String\\.(length|charAt|isEmpty|equals|indexOf|substring|toCharArray)"
        + "|StringBuilder\\.(append|charAt|setCharAt|setLength|deleteCharAt|reverse|length|toString)"
        + "|(ArrayList|List)\\.(add|get|set|remove|size|isEmpty|clear|of)"
        + "|(Integer|Long|Math)\\.(compare|max|min|abs|signum|bitCount|floorDiv|floorMod)"
        + "|System\\.arraycopy|Arrays\\.(copyOf|copyOfRange|fill)|Array\\.clone|Object\\.<init>");

    private final Trees trees;
    private final CompilationUnitTree unit;
    private final Map<Integer, Set<String>> faults = new TreeMap<>();
    private final Map<Element, Set<Element>> calls = new LinkedHashMap<>();
    private final Set<String> shown = new TreeSet<>();
    private final Set<String> hidden = new TreeSet<>();
    private int classes = 0;

    private Language(JavacTask task) throws IOException {
        trees = Trees.instance(task);
        unit = task.parse().iterator().next();
        task.analyze();
    }

    static Language of(String name, String text) {
        JavaFileObject file = new SimpleJavaFileObject(URI.create("string:///" + name + ".java"), JavaFileObject.Kind.SOURCE) {
            @Override
            public CharSequence getCharContent(boolean ignoreErrors) {
                return text;
            }
        };
        try {
            JavacTask task = (JavacTask) ToolProvider.getSystemJavaCompiler().getTask(
                null, null, null, List.of("--release", "17", "-proc:none"), null, List.of(file));
            Language language = new Language(task);
            language.scan(language.unit, null);
            language.judgeTheWhole();
            return language;
        } catch (IOException unread) {
            throw new AssertionError(name, unread);
        }
    }

    Set<String> faultsOf(int rule) {
        return faults.getOrDefault(rule, Set.of());
    }

    /** A longest chain of calls that begins at the face, written out. */
    List<String> deepestChain() {
        List<String> deepest = List.of();
        for (Element method : calls.keySet()) {
            List<String> chain = isShown(method) ? chainFrom(method, new HashSet<>()) : List.of();
            deepest = chain.size() > deepest.size() ? chain : deepest;
        }
        return deepest;
    }

    private List<String> chainFrom(Element method, Set<Element> open) {
        List<String> below = List.of();
        open.add(method);
        for (Element called : calls.getOrDefault(method, Set.of())) {
            List<String> chain = open.contains(called) ? List.of() : chainFrom(called, open);
            below = chain.size() > below.size() ? chain : below;
        }
        open.remove(method);
        List<String> whole = new ArrayList<>(List.of(method.getSimpleName().toString()));
        whole.addAll(below);
        return whole;
    }

    private void judgeTheWhole() {
        List<String> chain = deepestChain();
        check(11, chain.size() <= DEEPEST, chain.size() + " calls deep: " + String.join(", ", chain));
        check(11, classes <= MOST_CLASSES, classes + " classes");
        hidden.retainAll(shown);
        check(1, hidden.isEmpty(), "private, but named as a public one: " + hidden);
        check(1, unit.getTypeDecls().size() == 1, "more than one class of the file");
    }

    private void check(int rule, boolean holds, String what) {
        if (!holds) {
            faults.computeIfAbsent(rule, none -> new TreeSet<>()).add(what);
        }
    }

    private void forbid(int rule, Tree tree) {
        check(rule, false, "line " + lineOf(tree, false) + ": " + tree.toString().strip().lines().findFirst().orElse(""));
    }

    private long lineOf(Tree tree, boolean end) {
        long place = end ? trees.getSourcePositions().getEndPosition(unit, tree)
            : trees.getSourcePositions().getStartPosition(unit, tree);
        return unit.getLineMap().getLineNumber(place);
    }

    private Element here() {
        return trees.getElement(getCurrentPath());
    }

    private static boolean isShown(Element element) {
        return element.getModifiers().contains(Modifier.PUBLIC);
    }

    private static boolean isOfTheFile(Element element) {
        return packageOf(element).isEmpty();
    }

    private static String packageOf(Element element) {
        Element outer = element;
        while (outer != null && outer.getKind() != ElementKind.PACKAGE) {
            outer = outer.getEnclosingElement();
        }
        return String.valueOf(outer).replace("unnamed package", "");
    }

    private Element methodAround() {
        for (Tree tree : getCurrentPath()) {
            if (tree instanceof MethodTree) {
                return trees.getElement(trees.getPath(unit, tree));
            }
        }
        return null;
    }

    private boolean isInConstructor() {
        Element around = methodAround();
        return around == null || around.getKind() == ElementKind.CONSTRUCTOR;
    }

    @Override
    public Void visitClass(ClassTree tree, Void none) {
        classes++;
        int fields = 0;
        for (Tree member : tree.getMembers()) {
            boolean isField = member instanceof VariableTree;
            fields += isField && !((VariableTree) member).getModifiers().getFlags().contains(Modifier.STATIC) ? 1 : 0;
        }
        check(11, fields <= MOST_FIELDS, tree.getSimpleName() + " has " + fields + " fields");
        Element element = here();
        boolean isOuter = getCurrentPath().getParentPath().getLeaf() == unit;
        check(1, !isOuter || element.getModifiers().containsAll(Set.of(Modifier.PUBLIC, Modifier.FINAL)),
            "the class is not public and final");
        return super.visitClass(tree, none);
    }

    @Override
    public Void visitMethod(MethodTree tree, Void none) {
        Element method = here();
        calls.putIfAbsent(method, new HashSet<>());
        String name = tree.getName().toString();
        boolean isOfFace = method.getEnclosingElement().getEnclosingElement().getKind() == ElementKind.PACKAGE;
        if (isOfFace) {
            (isShown(method) ? shown : hidden).add(name);
            check(1, isShown(method) || method.getModifiers().contains(Modifier.PRIVATE), name + " is neither public nor private");
        }
        long lines = tree.getBody() == null ? 0 : lineOf(tree, true) - lineOf(tree, false) + 1;
        check(11, lines <= MOST_LINES, name + " has " + lines + " lines");
        check(11, tree.getParameters().size() <= MOST_PARAMETERS, name + " has too many parameters");
        return super.visitMethod(tree, none);
    }

    @Override
    public Void visitVariable(VariableTree tree, Void none) {
        Element variable = here();
        if (variable.getKind() == ElementKind.FIELD) {
            Set<Modifier> flags = variable.getModifiers();
            boolean isOfFace = variable.getEnclosingElement().getEnclosingElement().getKind() == ElementKind.PACKAGE;
            check(1, !isOfFace || flags.contains(Modifier.PRIVATE) || isShown(variable), tree.getName() + " is neither public nor private");
            boolean isConstant = ((VariableElement) variable).getConstantValue() != null
                || tree.getInitializer() != null && tree.getInitializer().getKind() == Tree.Kind.NEW_ARRAY;
            check(5, !flags.contains(Modifier.STATIC) || flags.contains(Modifier.FINAL) && isConstant,
                tree.getName() + " is static, but no constant");
        }
        return super.visitVariable(tree, none);
    }

    @Override
    public Void visitMethodInvocation(MethodInvocationTree tree, Void none) {
        Element called = here();
        if (called instanceof ExecutableElement method) {
            if (methodAround() != null) {
                calls.computeIfAbsent(methodAround(), first -> new HashSet<>()).add(method);
            }
            String name = method.getEnclosingElement().getSimpleName() + "." + method.getSimpleName();
            check(4, isOfTheFile(method) || LIBRARY.matcher(name).matches(), "line " + lineOf(tree, false) + ": " + name);
        }
        return super.visitMethodInvocation(tree, none);
    }

    @Override
    public Void visitThrow(ThrowTree tree, Void none) {
        ExpressionTree thrown = tree.getExpression();
        boolean isPlain = thrown instanceof NewClassTree made && made.getClassBody() == null
            && EXCEPTIONS.contains(made.getIdentifier().toString())
            && (made.getArguments().isEmpty() || made.getArguments().get(0) instanceof LiteralTree);
        if (!isPlain || isInConstructor()) {
            forbid(6, tree);
        }
        return super.visitThrow(tree, none);
    }

    @Override
    public Void visitTry(TryTree tree, Void none) {
        if (tree.getFinallyBlock() != null || !tree.getResources().isEmpty()) {
            forbid(6, tree);
        }
        return super.visitTry(tree, none);
    }

    @Override
    public Void visitBinary(BinaryTree tree, Void none) {
        if (tree.getKind() == Tree.Kind.PLUS && "java.lang.String".equals(String.valueOf(trees.getTypeMirror(getCurrentPath())))) {
            forbid(10, tree);
        }
        return super.visitBinary(tree, none);
    }

    @Override
    public Void visitLambdaExpression(LambdaExpressionTree tree, Void none) {
        forbid(2, tree);
        return super.visitLambdaExpression(tree, none);
    }

    @Override
    public Void visitMemberReference(MemberReferenceTree tree, Void none) {
        forbid(2, tree);
        return super.visitMemberReference(tree, none);
    }

    @Override
    public Void visitSynchronized(SynchronizedTree tree, Void none) {
        forbid(6, tree);
        return super.visitSynchronized(tree, none);
    }

    @Override
    public Void visitAssert(AssertTree tree, Void none) {
        forbid(6, tree);
        return super.visitAssert(tree, none);
    }
}
