import com.sun.source.tree.AssertTree;
import com.sun.source.tree.BinaryTree;
import com.sun.source.tree.BlockTree;
import com.sun.source.tree.ClassTree;
import com.sun.source.tree.CompilationUnitTree;
import com.sun.source.tree.CompoundAssignmentTree;
import com.sun.source.tree.DoWhileLoopTree;
import com.sun.source.tree.EnhancedForLoopTree;
import com.sun.source.tree.ForLoopTree;
import com.sun.source.tree.IdentifierTree;
import com.sun.source.tree.ImportTree;
import com.sun.source.tree.LambdaExpressionTree;
import com.sun.source.tree.LineMap;
import com.sun.source.tree.MemberReferenceTree;
import com.sun.source.tree.MethodInvocationTree;
import com.sun.source.tree.MethodTree;
import com.sun.source.tree.NewArrayTree;
import com.sun.source.tree.NewClassTree;
import com.sun.source.tree.SynchronizedTree;
import com.sun.source.tree.ThrowTree;
import com.sun.source.tree.Tree;
import com.sun.source.tree.TryTree;
import com.sun.source.tree.TypeCastTree;
import com.sun.source.tree.VariableTree;
import com.sun.source.tree.WhileLoopTree;
import com.sun.source.util.JavacTask;
import com.sun.source.util.SourcePositions;
import com.sun.source.util.TreePath;
import com.sun.source.util.TreePathScanner;
import com.sun.source.util.Trees;
import java.io.IOException;
import java.nio.file.Files;
import java.nio.file.Path;
import java.util.List;
import java.util.Map;
import java.util.Set;
import java.util.TreeMap;
import java.util.TreeSet;
import javax.lang.model.element.Element;
import javax.lang.model.element.ElementKind;
import javax.lang.model.element.ExecutableElement;
import javax.lang.model.element.Modifier;
import javax.lang.model.element.TypeElement;
import javax.lang.model.type.ArrayType;
import javax.lang.model.type.DeclaredType;
import javax.lang.model.type.TypeKind;
import javax.lang.model.type.TypeMirror;
import javax.tools.JavaCompiler;
import javax.tools.StandardJavaFileManager;
import javax.tools.ToolProvider;

/**
 * The rules of ../shared/LANGUAGE.md, by number, looked for in the tree that the compiler makes of
 * the class. Where the class needs less than a rule leaves, the test asks for less: it has no
 * doubles, casts, while loops or lists of Integer. Rule 7 is not for a look at the source: that no
 * call throws is tried in LifeboatHouseRefusals. An argument names another file to look at.
 */
public final class LifeboatHouseLanguage extends TreePathScanner<Void, Void> {
    private static final Set<String> LIBRARY = Set.of(
        "ArrayList.add", "ArrayList.get", "ArrayList.size", "ArrayList.set", "ArrayList.isEmpty", "ArrayList.clear",
        "Math.abs", "Math.max", "Math.min", "Math.floorMod", "Math.floorDiv",
        "Arrays.fill", "Arrays.copyOf", "System.arraycopy");
    private static final Set<TypeKind> NUMBERS = Set.of(
        TypeKind.INT, TypeKind.LONG, TypeKind.SHORT, TypeKind.BYTE, TypeKind.CHAR, TypeKind.BOOLEAN);

    private static int wrong = 0;

    private final Trees trees;
    private final SourcePositions positions;
    private final CompilationUnitTree unit;
    private final LineMap lines;
    private final Map<ExecutableElement, Set<ExecutableElement>> called = new TreeMap<>(
        (a, b) -> nameOf(a).compareTo(nameOf(b)));
    private final Set<String> publicNames = new TreeSet<>();
    private final Set<String> privateNames = new TreeSet<>();
    private ExecutableElement method = null;
    private int classes = 0;
    private int loops = 0;

    private LifeboatHouseLanguage(Trees trees, CompilationUnitTree unit) {
        this.trees = trees;
        this.positions = trees.getSourcePositions();
        this.unit = unit;
        this.lines = unit.getLineMap();
    }

    private static String nameOf(ExecutableElement m) {
        return m.getEnclosingElement().getSimpleName() + "." + m;
    }

    private void need(int rule, boolean holds, Tree where, String what) {
        if (holds) return;
        wrong++;
        System.out.println("rule " + rule + ", line " + lineOf(where) + ": " + what);
    }

    private static void need(int rule, boolean holds, String what) {
        if (holds) return;
        wrong++;
        System.out.println("rule " + rule + ": " + what);
    }

    private long lineOf(Tree t) {
        return lines.getLineNumber(positions.getStartPosition(unit, t));
    }

    private TypeMirror typeOf(Tree t) {
        return trees.getTypeMirror(new TreePath(getCurrentPath(), t));
    }

    private static boolean isOwn(Element e) {
        Element at = e;
        while (at != null && at.getKind() != ElementKind.PACKAGE) {
            if (at.getSimpleName().contentEquals("LifeboatHouse")) return true;
            at = at.getEnclosingElement();
        }
        return false;
    }

    // ---- rules 1, 2 and 11: the file and its classes

    @Override public Void visitCompilationUnit(CompilationUnitTree node, Void v) {
        need(1, node.getPackageName() == null, node, "a package line");
        need(1, node.getTypeDecls().size() == 1, node, "one class in the file");
        return super.visitCompilationUnit(node, v);
    }

    @Override public Void visitImport(ImportTree node, Void v) {
        String name = node.getQualifiedIdentifier().toString();
        need(4, Set.of("java.util.ArrayList", "java.util.Arrays").contains(name), node, "import " + name);
        return super.visitImport(node, v);
    }

    @Override public Void visitClass(ClassTree node, Void v) {
        classes++;
        Element e = trees.getElement(getCurrentPath());
        boolean inside = e.getEnclosingElement().getKind() != ElementKind.PACKAGE;
        Set<Modifier> as = e.getModifiers();
        if (inside) {
            need(2, node.getKind() == Tree.Kind.CLASS && as.contains(Modifier.STATIC), node, "a class that is not static");
            need(1, !as.contains(Modifier.PUBLIC) && !as.contains(Modifier.PROTECTED), node, "a public class inside");
            need(2, e.getEnclosingElement().getKind() == ElementKind.CLASS, node, "a local class");
        } else {
            need(1, as.contains(Modifier.PUBLIC) && as.contains(Modifier.FINAL), node, "public and final");
        }
        int fields = 0;
        for (Tree member : node.getMembers()) {
            if (member instanceof BlockTree block) need(5, !block.isStatic(), member, "a static initialiser");
            if (!(member instanceof VariableTree field)) continue;
            Set<Modifier> flags = field.getModifiers().getFlags();
            if (flags.contains(Modifier.STATIC)) {
                staticField(field, flags);
            } else {
                fields++;
            }
            if (!inside) need(1, flags.contains(Modifier.PRIVATE), member, "a field that is not private");
        }
        need(11, fields <= 20, node, fields + " fields");
        return super.visitClass(node, v);
    }

    private void staticField(VariableTree field, Set<Modifier> flags) {
        need(5, flags.contains(Modifier.FINAL), field, "static, but not final: " + field.getName());
        String type = String.valueOf(field.getType());
        boolean array = Set.of("int[]", "long[]", "char[]", "byte[]").contains(type);
        need(5, array || Set.of("int", "long", "boolean", "char", "String").contains(type), field, "a static " + type);
        boolean writtenOut = field.getInitializer() instanceof NewArrayTree a && a.getInitializers() != null;
        need(5, !array || writtenOut, field, "an array that is not written out");
    }

    // ---- methods

    @Override public Void visitMethod(MethodTree node, Void v) {
        ExecutableElement before = method;
        method = (ExecutableElement) trees.getElement(getCurrentPath());
        called.putIfAbsent(method, new TreeSet<>((a, b) -> nameOf(a).compareTo(nameOf(b))));
        boolean outer = method.getEnclosingElement().getEnclosingElement().getKind() == ElementKind.PACKAGE;
        Set<Modifier> as = method.getModifiers();
        if (outer) {
            need(1, as.contains(Modifier.PUBLIC) || as.contains(Modifier.PRIVATE), node, "public or private: " + node.getName());
        }
        if (method.getKind() == ElementKind.METHOD) {
            if (outer && as.contains(Modifier.PUBLIC)) publicNames.add(node.getName().toString());
            if (as.contains(Modifier.PRIVATE)) privateNames.add(node.getName().toString());
        }
        need(6, !Set.of("equals", "hashCode", "toString").contains(node.getName().toString()), node, "an own " + node.getName());
        need(11, node.getParameters().size() <= 7, node, "more than seven parameters");
        need(6, node.getThrows().isEmpty(), node, "throws");
        if (node.getBody() != null) {
            long last = lines.getLineNumber(positions.getEndPosition(unit, node));
            need(11, last - lineOf(node) < 60, node, "a method of more than sixty lines");
        }
        super.visitMethod(node, v);
        method = before;
        return null;
    }

    @Override public Void visitMethodInvocation(MethodInvocationTree node, Void v) {
        Element e = trees.getElement(getCurrentPath());
        if (e instanceof ExecutableElement to && to.getKind() == ElementKind.METHOD) {
            String name = to.getEnclosingElement().getSimpleName() + "." + to.getSimpleName();
            if (isOwn(to)) {
                if (method != null) called.get(method).add(to);
                boolean making = method != null && method.getKind() == ElementKind.CONSTRUCTOR;
                boolean fixed = to.getModifiers().contains(Modifier.STATIC) || to.getModifiers().contains(Modifier.PRIVATE);
                need(12, !making || fixed, node, "a constructor calls " + name);
            } else {
                need(4, LIBRARY.contains(name), node, "not in the library: " + name);
            }
        }
        return super.visitMethodInvocation(node, v);
    }

    @Override public Void visitNewClass(NewClassTree node, Void v) {
        need(2, node.getClassBody() == null, node, "an anonymous class");
        Element e = trees.getElement(getCurrentPath());
        String name = e == null ? "?" : e.getEnclosingElement().getSimpleName().toString();
        need(4, e != null && (isOwn(e) || name.equals("ArrayList")), node, "new " + name);
        need(12, loops == 0, node, "an object made in a loop");
        if (method != null && e instanceof ExecutableElement made && isOwn(e)) called.get(method).add(made);
        return super.visitNewClass(node, v);
    }

    @Override public Void visitNewArray(NewArrayTree node, Void v) {
        need(12, loops == 0, node, "an array made in a loop");
        need(12, method == null || method.getKind() == ElementKind.CONSTRUCTOR, node, "an array made by a call");
        return super.visitNewArray(node, v);
    }

    @Override public Void visitIdentifier(IdentifierTree node, Void v) {
        boolean itself = node.getName().contentEquals("this");
        boolean making = method != null && method.getKind() == ElementKind.CONSTRUCTOR;
        Tree.Kind around = getCurrentPath().getParentPath().getLeaf().getKind();
        need(12, !itself || !making || around == Tree.Kind.MEMBER_SELECT, node, "a constructor hands itself out");
        return super.visitIdentifier(node, v);
    }

    // ---- rule 3: types

    @Override public Void visitVariable(VariableTree node, Void v) {
        TypeMirror type = trees.getElement(getCurrentPath()).asType();
        need(3, isAllowed(type), node, "a " + type);
        return super.visitVariable(node, v);
    }

    private static boolean isAllowed(TypeMirror type) {
        if (NUMBERS.contains(type.getKind())) return true;
        if (type instanceof ArrayType row) {
            TypeMirror of = row.getComponentType();
            if (of instanceof ArrayType rows) return NUMBERS.contains(rows.getComponentType().getKind());
            return NUMBERS.contains(of.getKind()) || isOwnClass(of);
        }
        if (isOwnClass(type)) return true;
        if (!(type instanceof DeclaredType list)) return false;
        boolean isList = ((TypeElement) list.asElement()).getQualifiedName().contentEquals("java.util.ArrayList");
        return isList && list.getTypeArguments().size() == 1 && isOwnClass(list.getTypeArguments().get(0));
    }

    private static boolean isOwnClass(TypeMirror type) {
        return type instanceof DeclaredType d && isOwn(d.asElement());
    }

    // ---- rules 2 and 6: what is not there at all

    @Override public Void visitLambdaExpression(LambdaExpressionTree node, Void v) {
        need(2, false, node, "a lambda");
        return super.visitLambdaExpression(node, v);
    }

    @Override public Void visitMemberReference(MemberReferenceTree node, Void v) {
        need(2, false, node, "a method reference");
        return super.visitMemberReference(node, v);
    }

    @Override public Void visitThrow(ThrowTree node, Void v) {
        need(6, false, node, "throw");
        return super.visitThrow(node, v);
    }

    @Override public Void visitTry(TryTree node, Void v) {
        need(6, false, node, "try");
        return super.visitTry(node, v);
    }

    @Override public Void visitSynchronized(SynchronizedTree node, Void v) {
        need(6, false, node, "synchronized");
        return super.visitSynchronized(node, v);
    }

    @Override public Void visitAssert(AssertTree node, Void v) {
        need(6, false, node, "assert");
        return super.visitAssert(node, v);
    }

    @Override public Void visitTypeCast(TypeCastTree node, Void v) {
        need(6, false, node, "a cast");
        return super.visitTypeCast(node, v);
    }

    // ---- rules 9 and 10: loops and sums

    @Override public Void visitForLoop(ForLoopTree node, Void v) {
        String up = String.valueOf(node.getUpdate());
        need(9, node.getCondition() != null && up.matches("\\w+(\\+\\+|--);?"), node, "a for that does not count: " + up);
        String counter = up.replaceAll("\\W", "");
        String bound = counter + (up.contains("+") ? " <" : " >");
        need(9, String.valueOf(node.getCondition()).contains(bound), node, "a for without a bound of " + counter);
        scan(node.getInitializer(), v);
        loops++;
        scan(node.getCondition(), v);
        scan(node.getUpdate(), v);
        scan(node.getStatement(), v);
        loops--;
        return null;
    }

    @Override public Void visitEnhancedForLoop(EnhancedForLoopTree node, Void v) {
        need(12, typeOf(node.getExpression()) instanceof ArrayType, node, "a for over a list makes an iterator");
        loops++;
        super.visitEnhancedForLoop(node, v);
        loops--;
        return null;
    }

    @Override public Void visitWhileLoop(WhileLoopTree node, Void v) {
        need(9, false, node, "a while");
        return super.visitWhileLoop(node, v);
    }

    @Override public Void visitDoWhileLoop(DoWhileLoopTree node, Void v) {
        need(9, false, node, "a do");
        return super.visitDoWhileLoop(node, v);
    }

    @Override public Void visitBinary(BinaryTree node, Void v) {
        TypeMirror left = typeOf(node.getLeftOperand());
        TypeMirror right = typeOf(node.getRightOperand());
        boolean compares = node.getKind() == Tree.Kind.EQUAL_TO || node.getKind() == Tree.Kind.NOT_EQUAL_TO;
        if (compares) {
            need(6, !isText(left) && !isText(right), node, "== of texts");
        } else {
            need(10, !isText(left) && !isText(right), node, "a sum of texts");
        }
        return super.visitBinary(node, v);
    }

    @Override public Void visitCompoundAssignment(CompoundAssignmentTree node, Void v) {
        need(10, !isText(typeOf(node.getVariable())), node, "a sum of texts");
        return super.visitCompoundAssignment(node, v);
    }

    private static boolean isText(TypeMirror type) {
        String name = String.valueOf(type);
        return name.equals("java.lang.String") || name.equals("java.lang.Integer");
    }

    // ---- rules 1, 8 and 11: methods among each other

    private void together() {
        for (String name : privateNames) need(1, !publicNames.contains(name), "a private method " + name);
        need(11, classes <= 12, classes + " classes");
        for (ExecutableElement m : called.keySet()) {
            boolean itself = called.get(m).contains(m);
            Set<Modifier> as = m.getModifiers();
            need(8, !itself || (as.contains(Modifier.PRIVATE) && as.contains(Modifier.STATIC)), nameOf(m) + " calls itself");
            int deep = deepest(m, 0);
            need(deep > 40 ? 8 : 11, deep <= 8, nameOf(m) + " goes " + deep + " deep");
        }
    }

    /** Methods that call one another come out as deeper than 40. */
    private int deepest(ExecutableElement m, int above) {
        int most = 1;
        if (above > 40 || !called.containsKey(m)) return most;
        for (ExecutableElement to : called.get(m)) {
            if (!to.equals(m)) most = Math.max(most, 1 + deepest(to, above + 1));
        }
        return most;
    }

    private static void signs(String text) {
        for (int i = 0; i < text.length(); i++) {
            char c = text.charAt(i);
            need(4, c < 127 && (c >= ' ' || c == '\n'), "the sign " + (int) c + " at " + i);
        }
    }

    public static void main(String[] args) throws IOException {
        Path path = Path.of(args.length > 0 ? args[0] : "src/main/java/LifeboatHouse.java");
        signs(Files.readString(path));
        JavaCompiler compiler = ToolProvider.getSystemJavaCompiler();
        try (StandardJavaFileManager files = compiler.getStandardFileManager(null, null, null)) {
            JavacTask task = (JavacTask) compiler.getTask(null, files, null, List.of("-proc:none"), null,
                files.getJavaFileObjects(path));
            CompilationUnitTree unit = task.parse().iterator().next();
            task.analyze();
            LifeboatHouseLanguage look = new LifeboatHouseLanguage(Trees.instance(task), unit);
            look.scan(unit, null);
            look.together();
            need(1, look.publicNames.size() == 31, look.publicNames.size() + " public methods were seen");
        }
        System.out.println(wrong == 0 ? "the class keeps to its language" : wrong + " faults");
        if (wrong != 0) System.exit(1);
    }
}
