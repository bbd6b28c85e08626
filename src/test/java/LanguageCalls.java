import com.sun.source.tree.BinaryTree;
import com.sun.source.tree.ClassTree;
import com.sun.source.tree.CompilationUnitTree;
import com.sun.source.tree.DoWhileLoopTree;
import com.sun.source.tree.ExpressionTree;
import com.sun.source.tree.ForLoopTree;
import com.sun.source.tree.LiteralTree;
import com.sun.source.tree.MethodInvocationTree;
import com.sun.source.tree.MethodTree;
import com.sun.source.tree.NewArrayTree;
import com.sun.source.tree.NewClassTree;
import com.sun.source.tree.ParenthesizedTree;
import com.sun.source.tree.Tree;
import com.sun.source.tree.TypeCastTree;
import com.sun.source.tree.VariableTree;
import com.sun.source.tree.WhileLoopTree;
import com.sun.source.util.JavacTask;
import com.sun.source.util.TreePath;
import com.sun.source.util.TreePathScanner;
import com.sun.source.util.Trees;
import java.io.IOException;
import java.nio.file.Path;
import java.util.ArrayList;
import java.util.HashMap;
import java.util.LinkedHashMap;
import java.util.List;
import java.util.Map;
import java.util.Set;
import java.util.TreeSet;
import javax.lang.model.element.Element;
import javax.lang.model.element.ElementKind;
import javax.lang.model.element.ExecutableElement;
import javax.lang.model.element.VariableElement;
import javax.lang.model.type.TypeKind;
import javax.lang.model.type.TypeMirror;
import javax.tools.JavaCompiler;
import javax.tools.StandardJavaFileManager;
import javax.tools.ToolProvider;

/** Those rules of LANGUAGE.md that the compiler's own tree of the source tells: who calls whom, how deep, and what is made where. */
public final class LanguageCalls {
  private static final int DEEPEST = 8;
  private static final int LONGEST = 60;
  private static final Set<String> LIBRARY = Set.of("java.lang.String.length", "java.lang.String.charAt", "java.lang.String.indexOf",
      "java.lang.Math.min", "java.lang.Math.max", "java.lang.Math.abs", "java.lang.Integer.bitCount", "java.lang.System.arraycopy");

  private final Trees trees;
  private final CompilationUnitTree unit;
  /** By the name of a method of the class's file: the methods that it calls, the library's too. */
  private final Map<String, Set<String>> calls = new LinkedHashMap<>();
  private final Map<String, ExecutableElement> own = new HashMap<>();
  private final List<String> broken = new ArrayList<>();

  public static void main(String[] args) throws IOException {
    Path source = Path.of(args.length > 0 ? args[0] : "src/main/java/SpoonSet.java");
    JavaCompiler compiler = ToolProvider.getSystemJavaCompiler();
    StandardJavaFileManager files = compiler.getStandardFileManager(null, null, null);
    JavacTask task = (JavacTask) compiler.getTask(null, files, null, List.of("--release", "17", "-proc:none"), null, files.getJavaFileObjects(source));
    CompilationUnitTree unit = task.parse().iterator().next();
    task.analyze();
    LanguageCalls rules = new LanguageCalls(Trees.instance(task), unit);
    rules.look();
    for (String line : rules.broken) System.out.println(line);
    System.out.println(rules.calls.size() + " methods, " + (rules.broken.isEmpty() ? "the rules that are looked at are kept" : rules.broken.size() + " rules are broken"));
    if (!rules.broken.isEmpty()) System.exit(1);
  }

  private LanguageCalls(Trees trees, CompilationUnitTree unit) {
    this.trees = trees;
    this.unit = unit;
  }

  private void rule(int number, boolean kept, String what) {
    if (!kept) broken.add("rule " + number + ": " + what);
  }

  private void look() {
    new Scanner().scan(unit, null);
    rule(11, calls.size() > 57, "only " + calls.size() + " methods are seen");
    library();
    Map<String, Set<String>> rounds = new HashMap<>();
    for (String method : calls.keySet()) rounds.put(method, roundOf(method));
    for (String method : calls.keySet()) recursion(method, rounds.get(method));
    Map<String, List<String>> ways = new HashMap<>();
    for (String method : calls.keySet()) {
      List<String> way = longestFrom(method, rounds, ways);
      rule(11, way.size() <= DEEPEST, way.size() + " calls deep: " + String.join(", ", way));
    }
  }

  private void library() {
    for (Map.Entry<String, Set<String>> e : calls.entrySet())
      for (String called : e.getValue())
        rule(4, own.containsKey(called) || LIBRARY.contains(called.replaceAll("\\(.*", "")), e.getKey() + " calls " + called);
  }

  /** The methods that call a method and are called by it, by way of others too; just itself without recursion. */
  private Set<String> roundOf(String method) {
    Set<String> round = new TreeSet<>(Set.of(method));
    for (String other : reached(method)) if (own.containsKey(other) && reached(other).contains(method)) round.add(other);
    return round;
  }

  private Set<String> reached(String from) {
    Set<String> found = new TreeSet<>();
    List<String> waiting = new ArrayList<>(calls.getOrDefault(from, Set.of()));
    while (!waiting.isEmpty()) {
      String next = waiting.remove(waiting.size() - 1);
      if (found.add(next)) waiting.addAll(calls.getOrDefault(next, Set.of()));
    }
    return found;
  }

  private void recursion(String method, Set<String> round) {
    boolean recursive = round.size() > 1 || calls.get(method).contains(method);
    if (!recursive) return;
    boolean guarded = false;
    for (VariableElement p : own.get(method).getParameters()) guarded |= p.getSimpleName().contentEquals("open") && p.asType().getKind() == TypeKind.INT;
    rule(8, guarded, method + " calls itself and carries no depth");
    boolean hidden = own.get(method).getModifiers().contains(javax.lang.model.element.Modifier.PRIVATE);
    rule(8, hidden, method + " calls itself and is not private");
  }

  /** The longest way of calls, a round of recursion being one of it, and a call of the library one too. */
  private List<String> longestFrom(String method, Map<String, Set<String>> rounds, Map<String, List<String>> ways) {
    if (!calls.containsKey(method)) return List.of(method);
    if (ways.containsKey(method)) return ways.get(method);
    List<String> longest = List.of();
    for (String member : rounds.get(method)) {
      for (String called : calls.get(member)) {
        if (rounds.get(method).contains(called)) continue;
        List<String> way = longestFrom(called, rounds, ways);
        if (way.size() > longest.size()) longest = way;
      }
    }
    List<String> whole = new ArrayList<>(List.of(method));
    whole.addAll(longest);
    ways.put(method, whole);
    return whole;
  }

  /** Goes through the source once and writes down what each method calls. */
  private final class Scanner extends TreePathScanner<Void, Void> {
    private String method = null;

    private String nameOf(Element e) { return ((ExecutableElement) e).getEnclosingElement() + "." + e; }

    private String line(Tree t) { return "line " + unit.getLineMap().getLineNumber(trees.getSourcePositions().getStartPosition(unit, t)); }

    private void calls(Element e) {
      if (method != null) calls.get(method).add(nameOf(e));
    }

    @Override public Void visitMethod(MethodTree t, Void v) {
      String outer = method;
      ExecutableElement e = (ExecutableElement) trees.getElement(getCurrentPath());
      method = nameOf(e);
      calls.put(method, new TreeSet<>());
      own.put(method, e);
      long from = unit.getLineMap().getLineNumber(trees.getSourcePositions().getStartPosition(unit, t));
      long to = unit.getLineMap().getLineNumber(trees.getSourcePositions().getEndPosition(unit, t));
      rule(11, to - from < LONGEST, method + " has " + (to - from + 1) + " lines");
      super.visitMethod(t, v);
      method = outer;
      return null;
    }

    @Override public Void visitMethodInvocation(MethodInvocationTree t, Void v) {
      Element e = trees.getElement(getCurrentPath());
      boolean outset = e.getKind() == ElementKind.CONSTRUCTOR;
      if (!outset) calls(e);
      return super.visitMethodInvocation(t, v);
    }

    @Override public Void visitNewClass(NewClassTree t, Void v) {
      rule(2, t.getClassBody() == null, "a class without a name, " + line(t));
      made(t);
      calls(trees.getElement(getCurrentPath()));
      return super.visitNewClass(t, v);
    }

    @Override public Void visitNewArray(NewArrayTree t, Void v) {
      made(t);
      return super.visitNewArray(t, v);
    }

    /** In a constructor or as a field begins, so that no run of calls fills the room. */
    private void made(Tree t) {
      boolean byCall = method != null && own.get(method).getKind() != ElementKind.CONSTRUCTOR;
      rule(12, !byCall, "made by a call, " + line(t));
    }

    @Override public Void visitClass(ClassTree t, Void v) {
      rule(2, method == null, "a class inside a method, " + line(t));
      return super.visitClass(t, v);
    }

    @Override public Void visitVariable(VariableTree t, Void v) {
      TypeMirror type = trees.getTypeMirror(getCurrentPath());
      String name = type.toString();
      boolean known = Set.of("int", "long", "char", "boolean", "int[]", "java.lang.String").contains(name) || name.matches("SpoonSet\\.\\w+(\\[\\])?");
      rule(3, known, "the type " + name + ", " + line(t));
      return super.visitVariable(t, v);
    }

    @Override public Void visitTypeCast(TypeCastTree t, Void v) {
      rule(6, trees.getTypeMirror(new TreePath(getCurrentPath(), t.getType())).getKind().isPrimitive(), "a cast of an object, " + line(t));
      return super.visitTypeCast(t, v);
    }

    @Override public Void visitBinary(BinaryTree t, Void v) {
      boolean texts = typeOf(t.getLeftOperand()).equals("java.lang.String") || typeOf(t.getRightOperand()).equals("java.lang.String");
      rule(6, !texts, "two texts joined or compared by a sign, " + line(t));
      boolean divides = t.getKind() == Tree.Kind.DIVIDE || t.getKind() == Tree.Kind.REMAINDER;
      if (divides) rule(7, safe(t), "a divisor that may be 0, " + line(t));
      return super.visitBinary(t, v);
    }

    private String typeOf(ExpressionTree e) {
      TypeMirror type = trees.getTypeMirror(new TreePath(getCurrentPath(), e));
      return type == null ? "" : type.toString();
    }

    /** A constant that isn't 0, one more than a count, or behind a look at it. */
    private boolean safe(BinaryTree t) {
      ExpressionTree by = t.getRightOperand();
      Element e = trees.getElement(new TreePath(getCurrentPath(), by));
      boolean constant = e instanceof VariableElement && ((VariableElement) e).getConstantValue() instanceof Integer
          && (Integer) ((VariableElement) e).getConstantValue() != 0;
      boolean literal = by instanceof LiteralTree && !by.toString().equals("0");
      boolean oneMore = by.toString().equals("(deep + 1)");
      boolean looked = getCurrentPath().getParentPath().getLeaf().toString().contains(by + " == 0 ?");
      return constant || literal || oneMore || looked;
    }

    @Override public Void visitWhileLoop(WhileLoopTree t, Void v) {
      bounded(t.getCondition(), t);
      return super.visitWhileLoop(t, v);
    }

    @Override public Void visitDoWhileLoop(DoWhileLoopTree t, Void v) {
      bounded(t.getCondition(), t);
      return super.visitDoWhileLoop(t, v);
    }

    @Override public Void visitForLoop(ForLoopTree t, Void v) {
      bounded(t.getCondition(), t);
      rule(9, !t.getUpdate().isEmpty(), "a loop that counts nothing, " + line(t));
      return super.visitForLoop(t, v);
    }

    /** The condition holds a counter against a bound. */
    private void bounded(ExpressionTree condition, Tree loop) {
      ExpressionTree bare = condition;
      while (bare instanceof ParenthesizedTree) bare = ((ParenthesizedTree) bare).getExpression();
      while (bare instanceof BinaryTree && bare.getKind() == Tree.Kind.CONDITIONAL_AND) bare = ((BinaryTree) bare).getLeftOperand();
      boolean counts = bare != null && Set.of(Tree.Kind.LESS_THAN, Tree.Kind.LESS_THAN_EQUAL, Tree.Kind.GREATER_THAN, Tree.Kind.GREATER_THAN_EQUAL).contains(bare.getKind());
      rule(9, counts, "a loop without a bound, " + line(loop));
    }
  }
}
