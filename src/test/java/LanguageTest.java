import com.sun.source.tree.BinaryTree;
import com.sun.source.tree.ClassTree;
import com.sun.source.tree.CompilationUnitTree;
import com.sun.source.tree.CompoundAssignmentTree;
import com.sun.source.tree.DoWhileLoopTree;
import com.sun.source.tree.EnhancedForLoopTree;
import com.sun.source.tree.ExpressionTree;
import com.sun.source.tree.ForLoopTree;
import com.sun.source.tree.IdentifierTree;
import com.sun.source.tree.LiteralTree;
import com.sun.source.tree.MethodInvocationTree;
import com.sun.source.tree.MethodTree;
import com.sun.source.tree.NewArrayTree;
import com.sun.source.tree.NewClassTree;
import com.sun.source.tree.Tree;
import com.sun.source.tree.TypeCastTree;
import com.sun.source.tree.VariableTree;
import com.sun.source.tree.WhileLoopTree;
import com.sun.source.util.JavacTask;
import com.sun.source.util.SourcePositions;
import com.sun.source.util.TreePath;
import com.sun.source.util.TreePathScanner;
import com.sun.source.util.Trees;
import java.nio.file.Files;
import java.nio.file.Path;
import java.util.ArrayList;
import java.util.EnumSet;
import java.util.HashMap;
import java.util.LinkedHashSet;
import java.util.List;
import java.util.Map;
import java.util.Set;
import javax.lang.model.element.Element;
import javax.lang.model.element.ElementKind;
import javax.lang.model.element.ExecutableElement;
import javax.lang.model.element.Modifier;
import javax.lang.model.element.TypeElement;
import javax.lang.model.element.VariableElement;
import javax.lang.model.type.TypeKind;
import javax.lang.model.type.TypeMirror;
import javax.tools.JavaCompiler;
import javax.tools.StandardJavaFileManager;
import javax.tools.ToolProvider;

/**
 * LANGUAGE.md's rules, as far as they can be seen in the program: a text is read by the compiler and each part
 * of it is looked at. Texts that break one rule each show that it is seen. Run from the project's folder.
 */
public final class LanguageTest {
  private static final Set<Tree.Kind> BARRED = EnumSet.of(Tree.Kind.LAMBDA_EXPRESSION, Tree.Kind.MEMBER_REFERENCE, Tree.Kind.TRY,
      Tree.Kind.THROW, Tree.Kind.SYNCHRONIZED, Tree.Kind.ASSERT, Tree.Kind.IMPORT, Tree.Kind.PACKAGE, Tree.Kind.ANNOTATION,
      Tree.Kind.SWITCH_EXPRESSION, Tree.Kind.BINDING_PATTERN);

  // What of the library the class uses; LANGUAGE.md has more.
  private static final Set<String> LIBRARY = Set.of("String.length", "String.charAt", "System.arraycopy", "Integer.bitCount",
      "Math.max", "Math.min", "Math.abs");

  private static final Set<TypeKind> NUMBERS = EnumSet.of(TypeKind.INT, TypeKind.LONG, TypeKind.SHORT, TypeKind.BYTE, TypeKind.CHAR,
      TypeKind.BOOLEAN);

  private static final Set<Tree.Kind> COMPARISONS = EnumSet.of(Tree.Kind.LESS_THAN, Tree.Kind.LESS_THAN_EQUAL, Tree.Kind.GREATER_THAN,
      Tree.Kind.GREATER_THAN_EQUAL);

  private static final class Look extends TreePathScanner<Void, Void> {
    private final Trees trees;
    private final SourcePositions positions;
    private final CompilationUnitTree unit;
    private final List<String> wrong = new ArrayList<>();
    private final Map<String, Set<String>> calls = new HashMap<>();
    private int classes = 0;

    private Look(JavacTask task, CompilationUnitTree unit) {
      trees = Trees.instance(task);
      positions = trees.getSourcePositions();
      this.unit = unit;
    }

    private long line(long position) {
      return unit.getLineMap().getLineNumber(position);
    }

    private void bar(int rule, String what, Tree at) {
      wrong.add("rule " + rule + ", line " + line(positions.getStartPosition(unit, at)) + ": " + what);
    }

    private Element element(Tree tree) {
      return trees.getElement(TreePath.getPath(unit, tree));
    }

    private TypeMirror type(Tree tree) {
      return trees.getTypeMirror(TreePath.getPath(unit, tree));
    }

    private boolean isText(Tree tree) {
      return type(tree) != null && type(tree).toString().equals("java.lang.String");
    }

    private <T extends Tree> T around(Class<T> kind) {
      for (TreePath p = getCurrentPath(); p != null; p = p.getParentPath()) if (kind.isInstance(p.getLeaf())) return kind.cast(p.getLeaf());
      return null;
    }

    private static boolean inside(Element e) {
      for (Element up = e; up != null; up = up.getEnclosingElement()) if (up.getSimpleName().contentEquals("TurfHeaps")) return true;
      return false;
    }

    private static String named(Element method) {
      return method.getEnclosingElement().getSimpleName() + "." + method.getSimpleName();
    }

    @Override
    public Void scan(Tree tree, Void nothing) {
      if (tree != null && BARRED.contains(tree.getKind())) wrong.add("rule 6, 2: " + tree.getKind());
      return super.scan(tree, nothing);
    }

    @Override
    public Void visitClass(ClassTree tree, Void nothing) {
      classes++;
      boolean face = tree.getSimpleName().contentEquals("TurfHeaps");
      Set<Modifier> modifiers = tree.getModifiers().getFlags();
      if (!face && !modifiers.contains(Modifier.STATIC)) bar(2, tree.getSimpleName() + " is not static", tree);
      if (face && !modifiers.containsAll(Set.of(Modifier.PUBLIC, Modifier.FINAL))) bar(1, "the class is public and final", tree);
      if (tree.getKind() != Tree.Kind.CLASS) bar(2, "the class has classes alone: " + tree.getKind(), tree);
      int fields = 0;
      for (Tree member : tree.getMembers()) {
        if (member.getKind() == Tree.Kind.BLOCK) bar(5, "a block that belongs to no method", member);
        if (member instanceof VariableTree v && !v.getModifiers().getFlags().contains(Modifier.STATIC)) fields++;
      }
      if (fields > 20) bar(11, tree.getSimpleName() + " has " + fields + " fields", tree);
      return super.visitClass(tree, nothing);
    }

    @Override
    public Void visitMethod(MethodTree tree, Void nothing) {
      if (tree.getParameters().size() > 7) bar(11, tree.getName() + " takes more than seven", tree);
      long first = line(positions.getStartPosition(unit, tree));
      long last = line(positions.getEndPosition(unit, tree));
      if (last - first >= 60) bar(11, tree.getName() + " has " + (last - first + 1) + " lines", tree);
      calls.putIfAbsent(named(element(tree)), new LinkedHashSet<>());
      return super.visitMethod(tree, nothing);
    }

    @Override
    public Void visitVariable(VariableTree tree, Void nothing) {
      Element e = element(tree);
      TypeMirror t = e.asType();
      if (!fineType(t)) bar(3, tree.getName() + " is of " + t, tree);
      if (e.getKind() == ElementKind.FIELD && e.getModifiers().contains(Modifier.STATIC)) {
        if (!e.getModifiers().contains(Modifier.FINAL)) bar(5, tree.getName() + " is not final", tree);
        if (((VariableElement) e).getConstantValue() == null) bar(5, tree.getName() + " is no constant", tree);
      }
      return super.visitVariable(tree, nothing);
    }

    private boolean fineType(TypeMirror t) {
      if (NUMBERS.contains(t.getKind()) || t.toString().equals("java.lang.String") || t.toString().matches("TurfHeaps\\.\\w+")) return true;
      return t.toString().matches("(TurfHeaps\\.\\w+|int|long|short|byte|char|boolean)\\[\\]|(int|long)\\[\\]\\[\\]");
    }

    @Override
    public Void visitMethodInvocation(MethodInvocationTree tree, Void nothing) {
      Element e = element(tree.getMethodSelect());
      // The compiler puts a call of the class above ahead of each constructor.
      if (e instanceof ExecutableElement x && e.getKind() == ElementKind.METHOD) {
        if (!inside(e) && !LIBRARY.contains(named(e))) bar(4, named(e) + " is not of those that are used", tree);
        callTo(named(x));
      }
      return super.visitMethodInvocation(tree, nothing);
    }

    private void callTo(String what) {
      MethodTree from = around(MethodTree.class);
      if (from != null) calls.computeIfAbsent(named(element(from)), k -> new LinkedHashSet<>()).add(what);
    }

    @Override
    public Void visitNewClass(NewClassTree tree, Void nothing) {
      if (tree.getClassBody() != null) bar(2, "a class without a name", tree);
      if (!inside(((TypeElement) element(tree.getIdentifier())))) bar(3, "an object of the library is made", tree);
      made(tree);
      return super.visitNewClass(tree, nothing);
    }

    @Override
    public Void visitNewArray(NewArrayTree tree, Void nothing) {
      made(tree);
      return super.visitNewArray(tree, nothing);
    }

    private void made(Tree tree) {
      MethodTree from = around(MethodTree.class);
      if (from != null && !from.getName().contentEquals("<init>")) bar(12, "made elsewhere than with the object", tree);
    }

    @Override
    public Void visitBinary(BinaryTree tree, Void nothing) {
      boolean texts = isText(tree.getLeftOperand()) || isText(tree.getRightOperand());
      switch (tree.getKind()) {
        case PLUS: if (texts) bar(10, "texts are joined by +", tree); break;
        case EQUAL_TO: case NOT_EQUAL_TO: if (texts) bar(6, "texts are compared by ==", tree); break;
        case DIVIDE: case REMAINDER: divisor(tree.getRightOperand()); break;
        case AND: case OR: case XOR: if (type(tree).getKind() == TypeKind.BOOLEAN) bar(10, "booleans by bits", tree); break;
        default: break;
      }
      return super.visitBinary(tree, nothing);
    }

    @Override
    public Void visitCompoundAssignment(CompoundAssignmentTree tree, Void nothing) {
      if (type(tree.getVariable()).getKind() == TypeKind.BOOLEAN) bar(10, "booleans by bits", tree);
      if (isText(tree.getVariable())) bar(10, "texts are joined by +=", tree);
      if (tree.getKind() == Tree.Kind.DIVIDE_ASSIGNMENT || tree.getKind() == Tree.Kind.REMAINDER_ASSIGNMENT) divisor(tree.getExpression());
      return super.visitCompoundAssignment(tree, nothing);
    }

    /** A number that is not 0, or a name that the same method compares. */
    private void divisor(ExpressionTree by) {
      if (by instanceof LiteralTree l && l.getValue() instanceof Number n && n.longValue() != 0) return;
      Element e = element(by);
      if (e instanceof VariableElement v && v.getConstantValue() instanceof Number n && n.longValue() != 0) return;
      String body = String.valueOf(around(MethodTree.class));
      if (!(by instanceof IdentifierTree) || !body.matches("(?s).*\\b" + by + " (!= 0|< 1|> 0)\\b.*")) bar(7, by + " is not looked at", by);
    }

    @Override
    public Void visitTypeCast(TypeCastTree tree, Void nothing) {
      if (!NUMBERS.contains(type(tree.getType()).getKind())) bar(6, "a cast of objects", tree);
      return super.visitTypeCast(tree, nothing);
    }

    /** A loop says in its own condition what it goes up or down to. */
    private void bounded(ExpressionTree condition, Tree loop) {
      boolean[] found = new boolean[1];
      new com.sun.source.util.TreeScanner<Void, Void>() {
        @Override
        public Void visitBinary(BinaryTree tree, Void none) {
          found[0] |= COMPARISONS.contains(tree.getKind());
          return super.visitBinary(tree, none);
        }
      }.scan(condition, null);
      if (!found[0]) bar(9, "a loop whose end can't be seen", loop);
    }

    @Override
    public Void visitForLoop(ForLoopTree tree, Void nothing) {
      bounded(tree.getCondition(), tree);
      return super.visitForLoop(tree, nothing);
    }

    @Override
    public Void visitWhileLoop(WhileLoopTree tree, Void nothing) {
      bounded(tree.getCondition(), tree);
      return super.visitWhileLoop(tree, nothing);
    }

    @Override
    public Void visitDoWhileLoop(DoWhileLoopTree tree, Void nothing) {
      bounded(tree.getCondition(), tree);
      return super.visitDoWhileLoop(tree, nothing);
    }

    @Override
    public Void visitEnhancedForLoop(EnhancedForLoopTree tree, Void nothing) {
      if (type(tree.getExpression()).getKind() != TypeKind.ARRAY) bar(9, "a loop over what is no array", tree);
      return super.visitEnhancedForLoop(tree, nothing);
    }

    private void atLast() {
      if (classes > 12) wrong.add("rule 11: " + classes + " classes");
      int deepest = 0;
      for (String method : calls.keySet()) deepest = Math.max(deepest, depth(method, new LinkedHashSet<>()));
      if (deepest > 8) wrong.add("rule 11: calls go " + deepest + " deep");
    }

    /** The library's calls count as one; what calls itself is told, and counts no further. */
    private int depth(String method, Set<String> open) {
      if (!open.add(method)) {
        wrong.add("rule 8: " + method + " calls itself");
        return 0;
      }
      int below = 0;
      for (String to : calls.getOrDefault(method, Set.of())) below = Math.max(below, depth(to, open));
      open.remove(method);
      return below + 1;
    }
  }

  private static List<String> wrongIn(Path file) throws Exception {
    JavaCompiler compiler = ToolProvider.getSystemJavaCompiler();
    try (StandardJavaFileManager files = compiler.getStandardFileManager(null, null, null)) {
      JavacTask task = (JavacTask) compiler.getTask(null, files, null, List.of("-proc:none"), null, files.getJavaFileObjects(file));
      CompilationUnitTree unit = task.parse().iterator().next();
      task.analyze();
      Look look = new Look(task, unit);
      look.scan(new TreePath(unit), null);
      look.atLast();
      for (char c : Files.readString(file).toCharArray()) if (c > 126) look.wrong.add("a sign beyond 126");
      return look.wrong;
    }
  }

  /** Members that break a rule, each with that rule. */
  private static final String[][] BREAKERS = {
    {"rule 6", "private void f() { try { g(); } finally { g(); } } private void g() { }"},
    {"rule 6", "private int f(Object o) { return o == null ? 0 : 1; } private boolean g(String a, String b) { return a == b; }"},
    {"rule 2", "private final class In { }"},
    {"rule 3", "private double d;"},
    {"rule 3", "private Object o;"},
    {"rule 3", "private int[][][] n;"},
    {"rule 4", "private int f(String s) { return s.hashCode(); }"},
    {"rule 4", "private int f(int a) { return Math.addExact(a, a); }"},
    {"rule 5", "private static int n = 1;"},
    {"rule 5", "private static final int N; static { N = 1; }"},
    {"rule 7", "private int f(int a) { return 7 / a; }"},
    {"rule 7", "private int f(int a) { int b = 7; b %= a; return b; }"},
    {"rule 8", "private int f(int a) { return a < 1 ? 0 : g(a - 1); } private int g(int a) { return f(a); }"},
    {"rule 9", "private int f(int a) { int b = a; while (b != 7) { b++; } return b; }"},
    {"rule 9", "private void f() { for (boolean more = true; more; ) { more = false; } }"},
    {"rule 10", "private String f(String a) { return a + 1; }"},
    {"rule 10", "private boolean f(boolean a, boolean b) { boolean c = a; c |= b; return c; }"},
    {"rule 11", "private int f(int a, int b, int c, int d, int e, int g, int h, int i) { return a; }"},
    {"rule 11", "private void f() {" + "\n".repeat(60) + "}"},
    {"rule 11", "private void a() { b(); } private void b() { c(); } private void c() { d(); } private void d() { e(); }"
        + " private void e() { f(); } private void f() { g(); } private void g() { h(); } private int h() { return Math.abs(i()); }"
        + " private int i() { return 1; }"},
    {"rule 12", "private int[] f() { return new int[1]; }"}};

  private static int unseen() throws Exception {
    Path folder = Files.createTempDirectory("language");
    Path file = folder.resolve("TurfHeaps.java");
    int unseen = 0;
    for (String[] breaker : BREAKERS) {
      Files.writeString(file, "public final class TurfHeaps {\n" + breaker[1] + "\n}\n");
      List<String> wrong = wrongIn(file);
      if (wrong.stream().noneMatch(w -> w.matches(breaker[0] + "\\b.*"))) {
        unseen++;
        System.out.println(breaker[0] + " is not seen to be broken by: " + breaker[1] + " " + wrong);
      }
    }
    Files.delete(file);
    Files.delete(folder);
    return unseen;
  }

  public static void main(String[] args) throws Exception {
    List<String> wrong = wrongIn(Path.of("src/main/java/TurfHeaps.java"));
    wrong.forEach(System.out::println);
    int unseen = unseen();
    System.out.println(wrong.isEmpty() && unseen == 0 ? "no rule is broken" : wrong.size() + " things are barred, " + unseen + " not seen");
    if (!wrong.isEmpty() || unseen > 0) System.exit(1);
  }
}
