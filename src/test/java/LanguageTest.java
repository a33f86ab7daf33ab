import com.sun.source.tree.AssertTree;
import com.sun.source.tree.BinaryTree;
import com.sun.source.tree.CompilationUnitTree;
import com.sun.source.tree.CompoundAssignmentTree;
import com.sun.source.tree.LambdaExpressionTree;
import com.sun.source.tree.MemberReferenceTree;
import com.sun.source.tree.MethodInvocationTree;
import com.sun.source.tree.MethodTree;
import com.sun.source.tree.NewArrayTree;
import com.sun.source.tree.NewClassTree;
import com.sun.source.tree.SynchronizedTree;
import com.sun.source.tree.ThrowTree;
import com.sun.source.tree.Tree;
import com.sun.source.tree.TryTree;
import com.sun.source.tree.VariableTree;
import com.sun.source.util.JavacTask;
import com.sun.source.util.TreePathScanner;
import com.sun.source.util.Trees;
import java.nio.file.Path;
import java.util.HashSet;
import java.util.List;
import java.util.Map;
import java.util.Set;
import java.util.TreeMap;
import java.util.TreeSet;
import javax.lang.model.element.Element;
import javax.lang.model.element.ElementKind;
import javax.lang.model.element.Modifier;
import javax.lang.model.type.TypeKind;
import javax.tools.JavaCompiler;
import javax.tools.StandardJavaFileManager;
import javax.tools.ToolProvider;

// Those rules of LANGUAGE.md that javac's own reading of the source shows best: what the class calls and how deep,
// where it makes objects, and that nothing in it throws or takes a float's remainder.
public final class LanguageTest {
  private static final Path SOURCE = Path.of("src", "main", "java", "BlendedPatch.java");
  /** What the class uses of the library; LANGUAGE.md allows more, and what is used newly is to be looked up there. */
  private static final Set<String> LIBRARY = Set.of(
      "java.lang.Math.max(int,int)", "java.lang.Math.min(int,int)", "java.util.Arrays.fill(int[],int)",
      "java.lang.System.arraycopy(java.lang.Object,int,java.lang.Object,int,int)", "java.lang.Object.Object()");
  private static final Set<Tree.Kind> REMAINDERS = Set.of(Tree.Kind.REMAINDER, Tree.Kind.REMAINDER_ASSIGNMENT);
  private static final Set<TypeKind> POINTED = Set.of(TypeKind.FLOAT, TypeKind.DOUBLE);
  private static final int DEEPEST = 8;
  private static final int LONGEST = 60;

  /** What each method calls, by class, name and numbers. */
  private static final Map<String, Set<String>> CALLS = new TreeMap<>();
  private static int wrong = 0;

  private static void holds(boolean is, String what) {
    if (!is) { wrong++; System.out.println("does not hold: " + what); }
  }

  private static final class Look extends TreePathScanner<Void, Void> {
    private final Trees trees;
    private final CompilationUnitTree unit;
    private String method = "a field";
    private boolean making = true;

    Look(Trees trees, CompilationUnitTree unit) {
      this.trees = trees;
      this.unit = unit;
    }

    private static String full(Element e) {
      return e.getEnclosingElement() + "." + (e.getKind() == ElementKind.CONSTRUCTOR
          ? e.toString().replaceFirst("^.*(?=\\b" + e.getEnclosingElement().getSimpleName() + "\\()", "") : e.toString());
    }

    private long line(long place) { return unit.getLineMap().getLineNumber(place); }

    @Override public Void visitMethod(MethodTree tree, Void none) {
      Element e = trees.getElement(getCurrentPath());
      String outerMethod = method;
      boolean outerMaking = making;
      method = full(e);
      making = e.getKind() == ElementKind.CONSTRUCTOR;
      CALLS.putIfAbsent(method, new TreeSet<>());
      long first = line(trees.getSourcePositions().getStartPosition(unit, tree));
      long last = line(trees.getSourcePositions().getEndPosition(unit, tree));
      holds(last - first < LONGEST, "rule 11, sixty lines at most: " + method);
      super.visitMethod(tree, none);
      method = outerMethod;
      making = outerMaking;
      return null;
    }

    @Override public Void visitMethodInvocation(MethodInvocationTree tree, Void none) {
      calls(trees.getElement(getCurrentPath()));
      return super.visitMethodInvocation(tree, none);
    }

    private void calls(Element called) {
      String name = full(called);
      if (name.startsWith("BlendedPatch")) CALLS.computeIfAbsent(method, m -> new TreeSet<>()).add(name);
      else holds(LIBRARY.contains(name), "rule 4, " + method + " calls " + name);
    }

    @Override public Void visitNewClass(NewClassTree tree, Void none) {
      holds(making, "objects are made in constructors alone, not in " + method);
      calls(trees.getElement(getCurrentPath()));
      return super.visitNewClass(tree, none);
    }

    @Override public Void visitNewArray(NewArrayTree tree, Void none) {
      holds(making, "rows are made in constructors alone, not in " + method);
      return super.visitNewArray(tree, none);
    }

    @Override public Void visitBinary(BinaryTree tree, Void none) {
      looksWhole(tree);
      return super.visitBinary(tree, none);
    }

    @Override public Void visitCompoundAssignment(CompoundAssignmentTree tree, Void none) {
      looksWhole(tree);
      return super.visitCompoundAssignment(tree, none);
    }

    private void looksWhole(Tree tree) {
      boolean pointed = POINTED.contains(trees.getTypeMirror(getCurrentPath()).getKind());
      holds(!REMAINDERS.contains(tree.getKind()) || !pointed, "rule 3, no remainder of a float in " + method);
    }

    @Override public Void visitVariable(VariableTree tree, Void none) {
      Element e = trees.getElement(getCurrentPath());
      boolean field = e.getKind() == ElementKind.FIELD;
      if (field && e.getModifiers().contains(Modifier.STATIC)) {
        holds(e.getModifiers().contains(Modifier.FINAL), "rule 5, a static field is final: " + e);
        holds(e.asType().getKind() == TypeKind.INT, "rule 5, the class needs static numbers alone: " + e);
      }
      return super.visitVariable(tree, none);
    }

    @Override public Void visitThrow(ThrowTree tree, Void none) { return none("throw"); }
    @Override public Void visitTry(TryTree tree, Void none) { return none("try"); }
    @Override public Void visitLambdaExpression(LambdaExpressionTree tree, Void none) { return none("lambda"); }
    @Override public Void visitMemberReference(MemberReferenceTree tree, Void none) { return none("method reference"); }
    @Override public Void visitSynchronized(SynchronizedTree tree, Void none) { return none("synchronized"); }
    @Override public Void visitAssert(AssertTree tree, Void none) { return none("assert"); }

    private Void none(String what) {
      holds(false, "no " + what + " in " + method);
      return null;
    }
  }

  private static void look() throws Exception {
    JavaCompiler javac = ToolProvider.getSystemJavaCompiler();
    try (StandardJavaFileManager files = javac.getStandardFileManager(null, null, null)) {
      JavacTask task = (JavacTask) javac.getTask(null, files, null, List.of("-proc:none"), null, files.getJavaFileObjects(SOURCE));
      Iterable<? extends CompilationUnitTree> units = task.parse();
      task.analyze();
      for (CompilationUnitTree unit : units) new Look(Trees.instance(task), unit).scan(unit, null);
    }
  }

  /** How many calls stand open at once at most, this one counted, or 0 if the method comes to itself again. */
  private static int depth(String method, Set<String> open) {
    if (!open.add(method)) return 0;
    int deepest = 0;
    boolean again = false;
    for (String called : CALLS.getOrDefault(method, Set.of())) {
      int deep = depth(called, open);
      again |= deep == 0;
      deepest = Math.max(deepest, deep);
    }
    open.remove(method);
    return again ? 0 : deepest + 1;
  }

  public static void main(String[] args) throws Exception {
    look();
    holds(CALLS.getOrDefault("BlendedPatch.digest()", Set.of()).contains("BlendedPatch.told(int)"), "calls were seen: " + CALLS);
    holds(CALLS.getOrDefault("BlendedPatch.reads()", Set.of()).contains("BlendedPatch.Text.parse()"), "calls within were seen: " + CALLS);
    for (String method : CALLS.keySet()) {
      int deep = depth(method, new HashSet<>());
      holds(deep > 0, "no method comes to itself: " + method);
      holds(deep <= DEEPEST, "rule 11, eight calls deep at most: " + method + " goes " + deep);
    }
    System.out.println(wrong == 0 ? "the class keeps to the rules that are looked at" : wrong + " things do not hold");
    if (wrong != 0) System.exit(1);
  }
}
