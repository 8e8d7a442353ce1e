import com.sun.source.tree.*;
import com.sun.source.util.JavacTask;
import com.sun.source.util.SourcePositions;
import com.sun.source.util.TreePathScanner;
import com.sun.source.util.Trees;
import java.io.File;
import java.io.IOException;
import java.util.*;
import javax.lang.model.element.*;
import javax.lang.model.type.*;
import javax.tools.*;

/** The source of the class keeps to LANGUAGE.md, as far as that can be seen from the source: each fault with its rule. */
public final class Language extends TreePathScanner<Void, Void> {
    private static final int DEEPEST = 8, MOST_LINES = 60, MOST_CLASSES = 12, MOST_FIELDS = 20, MOST_PARAMETERS = 7;
    private static final Map<String, Set<String>> LIBRARY = Map.of(
            "java.lang.String", Set.of("length", "charAt", "isEmpty", "equals", "indexOf", "substring", "toCharArray"),
            "java.lang.StringBuilder",
            Set.of("append", "charAt", "setCharAt", "setLength", "deleteCharAt", "reverse", "length", "toString"),
            "java.util.ArrayList", Set.of("add", "get", "set", "remove", "size", "isEmpty", "clear"),
            "java.util.List", Set.of("add", "get", "set", "remove", "size", "isEmpty", "clear", "of"),
            "java.lang.Math", Set.of("max", "min", "abs", "floorDiv", "floorMod"),
            "java.lang.Integer", Set.of("compare", "max", "min", "bitCount"),
            "java.lang.Long", Set.of("compare", "max", "min", "bitCount"),
            "java.lang.System", Set.of("arraycopy"),
            "java.util.Arrays", Set.of("copyOf", "copyOfRange", "fill"));
    /** What each rule bans wherever it stands. */
    private static final Map<Tree.Kind, Integer> BANNED = Map.of(Tree.Kind.THROW, 6, Tree.Kind.TRY, 6, Tree.Kind.CATCH, 6,
            Tree.Kind.SYNCHRONIZED, 6, Tree.Kind.ASSERT, 6, Tree.Kind.LAMBDA_EXPRESSION, 2, Tree.Kind.MEMBER_REFERENCE, 2,
            Tree.Kind.WHILE_LOOP, 9, Tree.Kind.DO_WHILE_LOOP, 9, Tree.Kind.ANNOTATION, 4);

    private final Trees trees;
    private final SourcePositions places;
    private final CompilationUnitTree unit;
    private final Map<Element, Set<Element>> calls = new HashMap<>();
    private final Set<String> open = new TreeSet<>();
    private final List<Element> closed = new ArrayList<>();
    private int classes = 0;
    private int faults = 0;

    private Language(Trees trees, CompilationUnitTree unit) {
        this.trees = trees;
        this.places = trees.getSourcePositions();
        this.unit = unit;
    }

    private long line(long place) {
        return unit.getLineMap().getLineNumber(place);
    }

    private void keeps(boolean kept, int rule, Tree where, String what) {
        if (!kept) {
            faults++;
            System.out.println("rule " + rule + ", line " + line(places.getStartPosition(unit, where)) + ": " + what);
        }
    }

    private Element here() {
        return trees.getElement(getCurrentPath());
    }

    private static boolean isOwn(Element e) {
        Element outer = e;
        while (outer != null && !(outer.getKind().isClass() && outer.getEnclosingElement().getKind() == ElementKind.PACKAGE)) {
            outer = outer.getEnclosingElement();
        }
        return outer != null && outer.getSimpleName().contentEquals("OneRoom");
    }

    /** The method or constructor around here; null in the initialiser of a field. */
    private MethodTree around() {
        for (Tree t : getCurrentPath()) {
            if (t instanceof MethodTree m) {
                return m;
            }
        }
        return null;
    }

    // ---- 1, 2, 5, 11: classes, methods, fields

    @Override
    public Void scan(Tree tree, Void v) {
        if (tree != null && BANNED.containsKey(tree.getKind())) {
            keeps(false, BANNED.get(tree.getKind()), tree, "no " + tree.getKind());
        }
        return super.scan(tree, v);
    }

    @Override
    public Void visitClass(ClassTree tree, Void v) {
        Element e = here();
        classes++;
        boolean outer = e.getEnclosingElement().getKind() == ElementKind.PACKAGE;
        keeps(outer || e.getEnclosingElement().getKind().isClass(), 2, tree, "no class in a method, none without a name");
        keeps(outer || e.getModifiers().contains(Modifier.STATIC), 2, tree, "classes inside are static");
        int fields = 0;
        for (Element member : e.getEnclosedElements()) {
            boolean constant = member.getModifiers().contains(Modifier.STATIC);
            fields += member.getKind() == ElementKind.FIELD && !constant ? 1 : 0;
        }
        keeps(fields <= MOST_FIELDS, 11, tree, fields + " fields");
        return super.visitClass(tree, v);
    }

    @Override
    public Void visitBlock(BlockTree tree, Void v) {
        keeps(!(getCurrentPath().getParentPath().getLeaf() instanceof ClassTree), 5, tree, "no initialiser block");
        return super.visitBlock(tree, v);
    }

    @Override
    public Void visitMethod(MethodTree tree, Void v) {
        ExecutableElement e = (ExecutableElement) here();
        if (e.getModifiers().contains(Modifier.PUBLIC) && e.getKind() == ElementKind.METHOD) {
            open.add(tree.getName().toString());
        } else {
            closed.add(e);
        }
        calls.putIfAbsent(e, new LinkedHashSet<>());
        long first = line(Math.max(0, places.getStartPosition(unit, tree))), last = line(places.getEndPosition(unit, tree));
        keeps(last - first < MOST_LINES, 11, tree, tree.getName() + " has " + (last - first + 1) + " lines");
        keeps(tree.getParameters().size() <= MOST_PARAMETERS, 11, tree, tree.getName() + " takes too many");
        keeps(!Set.of("equals", "hashCode", "toString").contains(tree.getName().toString()), 6, tree, "no " + tree.getName());
        keeps(tree.getThrows().isEmpty(), 6, tree, tree.getName() + " throws nothing");
        if (e.getKind() == ElementKind.METHOD) {
            keeps(e.getReturnType().getKind() == TypeKind.VOID || isLetIn(e.getReturnType()), 3, tree, "type " + e.getReturnType());
        }
        return super.visitMethod(tree, v);
    }

    @Override
    public Void visitVariable(VariableTree tree, Void v) {
        Element e = here();
        keeps(isLetIn(e.asType()), 3, tree, "type " + e.asType());
        if (e.getModifiers().contains(Modifier.STATIC)) {
            keeps(e.getModifiers().contains(Modifier.FINAL), 5, tree, tree.getName() + " is final");
            boolean written = tree.getInitializer() instanceof NewArrayTree rows && rows.getInitializers() != null;
            keeps(e.asType().getKind() == TypeKind.ARRAY ? written : ((VariableElement) e).getConstantValue() != null, 5, tree,
                    tree.getName() + " is a constant, or an array written out");
        }
        return super.visitVariable(tree, v);
    }

    // ---- 3: types

    private boolean isLetIn(TypeMirror type) {
        if (type.getKind() != TypeKind.ARRAY) {
            return type.getKind().isPrimitive() || isOwnClass(type) || LIBRARY.containsKey(bare(type));
        }
        TypeMirror part = ((ArrayType) type).getComponentType();
        if (part.getKind() != TypeKind.ARRAY) {
            return part.getKind().isPrimitive() || isOwnClass(part);
        }
        TypeKind number = ((ArrayType) part).getComponentType().getKind();
        return number.isPrimitive() && number != TypeKind.BOOLEAN;
    }

    private static boolean isOwnClass(TypeMirror type) {
        return type.getKind() == TypeKind.DECLARED && isOwn(((DeclaredType) type).asElement());
    }

    private static String bare(TypeMirror type) {
        return type.getKind() == TypeKind.DECLARED ? ((DeclaredType) type).asElement().toString() : "";
    }

    // ---- 4, 8, 12: what is called and made

    @Override
    public Void visitMethodInvocation(MethodInvocationTree tree, Void v) {
        Element e = here();
        MethodTree caller = around();
        String owner = e.getEnclosingElement().toString(), name = e.getSimpleName().toString();
        boolean own = isOwn(e), made = e.getKind() == ElementKind.CONSTRUCTOR;
        boolean library = LIBRARY.getOrDefault(owner, Set.of()).contains(name);
        keeps(own || made || library || name.equals("clone"), 4, tree, "no " + owner + "." + name);
        if (own && caller != null) {
            Element from = trees.getElement(trees.getPath(unit, caller));
            calls.computeIfAbsent(from, k -> new LinkedHashSet<>()).add(e);
        }
        return super.visitMethodInvocation(tree, v);
    }

    @Override
    public Void visitImport(ImportTree tree, Void v) {
        String name = tree.getQualifiedIdentifier().toString();
        keeps(!tree.isStatic() && (LIBRARY.containsKey(name) || name.equals("java.util.Iterator")), 4, tree, "no import of " + name);
        return super.visitImport(tree, v);
    }

    private void madeOnce(Tree tree) {
        MethodTree in = around();
        keeps(in == null || in.getReturnType() == null, 12, tree, "made behind the constructor");
    }

    @Override
    public Void visitNewClass(NewClassTree tree, Void v) {
        keeps(tree.getClassBody() == null, 2, tree, "no class without a name");
        madeOnce(tree);
        return super.visitNewClass(tree, v);
    }

    @Override
    public Void visitNewArray(NewArrayTree tree, Void v) {
        madeOnce(tree);
        return super.visitNewArray(tree, v);
    }

    // ---- 4, 6, 9, 10: what stands in methods

    @Override
    public Void visitForLoop(ForLoopTree tree, Void v) {
        keeps(tree.getCondition() != null && !tree.getUpdate().isEmpty(), 9, tree, "a loop has a counter and a bound");
        return super.visitForLoop(tree, v);
    }

    @Override
    public Void visitBinary(BinaryTree tree, Void v) {
        for (ExpressionTree side : List.of(tree.getLeftOperand(), tree.getRightOperand())) {
            TypeMirror type = trees.getTypeMirror(new com.sun.source.util.TreePath(getCurrentPath(), side));
            boolean text = bare(type).equals("java.lang.String") || bare(type).equals("java.lang.Integer");
            keeps(!text, tree.getKind() == Tree.Kind.PLUS ? 10 : 6, tree, "no " + tree.getKind() + " of texts");
        }
        return super.visitBinary(tree, v);
    }

    @Override
    public Void visitAssignment(AssignmentTree tree, Void v) {
        if (tree.getVariable() instanceof ArrayAccessTree access) {
            Element e = trees.getElement(new com.sun.source.util.TreePath(getCurrentPath(), access.getExpression()));
            keeps(e == null || !e.getModifiers().contains(Modifier.STATIC), 5, tree, "an array of the class stays as it is");
        }
        return super.visitAssignment(tree, v);
    }

    @Override
    public Void visitLiteral(LiteralTree tree, Void v) {
        if (tree.getValue() instanceof String s) {
            keeps(s.chars().allMatch(c -> c >= 1 && c <= 127), 4, tree, "signs are 1 to 127");
        }
        return super.visitLiteral(tree, v);
    }

    // ---- 1, 8, 11: of all together

    /** How many calls stand open at most from this one on, itself among them; -1 if one calls itself. */
    private int depth(Element e, Set<Element> above) {
        if (!above.add(e)) {
            return -1;
        }
        int deepest = 0;
        for (Element next : calls.getOrDefault(e, Set.of())) {
            int d = depth(next, above);
            if (d < 0) {
                return -1;
            }
            deepest = Math.max(deepest, d);
        }
        above.remove(e);
        return deepest + 1;
    }

    private void together() {
        keeps(classes <= MOST_CLASSES, 11, unit, classes + " classes");
        keeps(unit.getPackageName() == null, 1, unit, "no package");
        for (Element e : closed) {
            keeps(!open.contains(e.getSimpleName().toString()), 1, trees.getTree(e), "no second " + e);
        }
        for (Element e : calls.keySet()) {
            int depth = depth(e, new HashSet<>());
            keeps(depth > 0, 8, trees.getTree(e), e + " calls itself");
            keeps(depth <= DEEPEST, 11, trees.getTree(e), e + " goes " + depth + " deep");
        }
        keeps(calls.size() > 100 && open.size() == 36, 1, unit, "the calls of the class are seen");
    }

    public static void main(String[] args) throws IOException {
        JavaCompiler javac = ToolProvider.getSystemJavaCompiler();
        StandardJavaFileManager files = javac.getStandardFileManager(null, null, null);
        String path = args.length > 0 ? args[0] : "src/main/java/OneRoom.java";
        JavacTask task = (JavacTask) javac.getTask(null, files, null, List.of("--release", "17", "-proc:none"), null,
                files.getJavaFileObjects(new File(path)));
        CompilationUnitTree unit = task.parse().iterator().next();
        task.analyze();
        Language seen = new Language(Trees.instance(task), unit);
        seen.scan(unit, null);
        seen.together();
        System.out.println(seen.faults == 0 ? "the source keeps to the language" : seen.faults + " faults of language");
        if (seen.faults != 0) {
            System.exit(1);
        }
    }
}
