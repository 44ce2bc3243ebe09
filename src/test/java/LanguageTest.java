import com.sun.source.tree.AssertTree;
import com.sun.source.tree.BinaryTree;
import com.sun.source.tree.ClassTree;
import com.sun.source.tree.CompilationUnitTree;
import com.sun.source.tree.CompoundAssignmentTree;
import com.sun.source.tree.ConditionalExpressionTree;
import com.sun.source.tree.ExpressionTree;
import com.sun.source.tree.ForLoopTree;
import com.sun.source.tree.ImportTree;
import com.sun.source.tree.LambdaExpressionTree;
import com.sun.source.tree.LiteralTree;
import com.sun.source.tree.MemberReferenceTree;
import com.sun.source.tree.MethodInvocationTree;
import com.sun.source.tree.MethodTree;
import com.sun.source.tree.NewArrayTree;
import com.sun.source.tree.NewClassTree;
import com.sun.source.tree.SynchronizedTree;
import com.sun.source.tree.ThrowTree;
import com.sun.source.tree.Tree;
import com.sun.source.tree.TryTree;
import com.sun.source.tree.TypeCastTree;
import com.sun.source.tree.VariableTree;
import com.sun.source.tree.WhileLoopTree;
import com.sun.source.util.JavacTask;
import com.sun.source.util.TreePath;
import com.sun.source.util.TreePathScanner;
import com.sun.source.util.Trees;
import java.io.File;
import java.util.ArrayList;
import java.util.HashMap;
import java.util.HashSet;
import java.util.List;
import java.util.Map;
import java.util.Set;
import java.util.TreeMap;
import java.util.TreeSet;
import javax.lang.model.element.Element;
import javax.lang.model.element.ElementKind;
import javax.lang.model.element.ExecutableElement;
import javax.lang.model.element.Modifier;
import javax.lang.model.element.TypeElement;
import javax.lang.model.element.VariableElement;
import javax.lang.model.type.ArrayType;
import javax.lang.model.type.TypeKind;
import javax.lang.model.type.TypeMirror;
import javax.tools.JavaCompiler;
import javax.tools.StandardJavaFileManager;
import javax.tools.ToolProvider;

// The program's text keeps to ../shared/LANGUAGE.md, as far as the text shows it. The rules' numbers are that page's.
// Where the program needs less than a rule leaves it, the test is the stricter one: then widen the test first.
public final class LanguageTest {
  private static final String SOURCE = "src/main/java/BallastLine.java";
  // Of the library, what the page lists and the program may have a use for.
  private static final Set<String> LIBRARY = Set.of("java.lang.Math.max", "java.lang.Math.min", "java.lang.Math.abs",
      "java.lang.Math.floorDiv", "java.lang.Math.floorMod", "java.lang.Integer.bitCount", "java.lang.System.arraycopy",
      "java.lang.Object.<init>");
  private static final int MOST_PARAMETERS = 7, MOST_LINES = 60, MOST_DEEP = 8, MOST_CLASSES = 12, MOST_FIELDS = 20;
  private static int wrong = 0;

  private static void broken(int rule, String what) {
    wrong++;
    System.out.println("rule " + rule + ": " + what);
  }

  private static final class Reader extends TreePathScanner<Void, Void> {
    final Trees trees;
    final CompilationUnitTree unit;
    final Map<String, Set<String>> calls = new TreeMap<>();
    final Set<String> entries = new TreeSet<>();
    int classes = 0;
    int methods = 0;

    Reader(Trees trees, CompilationUnitTree unit) {
      this.trees = trees;
      this.unit = unit;
    }

    String at(Tree tree) {
      return "line " + line(trees.getSourcePositions().getStartPosition(unit, tree)) + ": " + firstLine(tree);
    }

    long line(long position) {
      return unit.getLineMap().getLineNumber(position);
    }

    String firstLine(Tree tree) {
      return tree.toString().strip().split("\n")[0];
    }

    Element element() {
      return trees.getElement(getCurrentPath());
    }

    TypeMirror typeOf(Tree tree) {
      return trees.getTypeMirror(new TreePath(getCurrentPath(), tree));
    }

    static String nameOf(Element e) {
      return ((TypeElement) e.getEnclosingElement()).getQualifiedName() + "." + e.getSimpleName();
    }

    static boolean isOwn(Element e) {
      return nameOf(e).startsWith("BallastLine.");
    }

    // What stands in no method runs as the class's constructor does.
    String here() {
      for (TreePath p = getCurrentPath(); p != null; p = p.getParentPath()) {
        if (p.getLeaf() instanceof MethodTree || p.getLeaf() instanceof ClassTree) {
          Element e = trees.getElement(p);
          return e instanceof TypeElement ? ((TypeElement) e).getQualifiedName() + ".<init>" : nameOf(e);
        }
      }
      return "";
    }

    void call(Element called, Tree tree) {
      if (!isOwn(called) && !LIBRARY.contains(nameOf(called))) {
        broken(4, "a call of the library that isn't listed: " + at(tree));
      }
      calls.computeIfAbsent(here(), k -> new TreeSet<>()).add(nameOf(called));
    }

    @Override public Void visitImport(ImportTree tree, Void none) {
      broken(4, "an import: " + at(tree));
      return null;
    }

    @Override public Void visitClass(ClassTree tree, Void none) {
      classes++;
      Element e = element();
      boolean outer = e.getEnclosingElement().getKind() == ElementKind.PACKAGE;
      if (!outer && !(e.getEnclosingElement() instanceof TypeElement && e.getModifiers().contains(Modifier.STATIC))) {
        broken(2, "a class that is no static one inside the other: " + at(tree));
      }
      if (!outer && (e.getModifiers().contains(Modifier.PUBLIC) || e.getModifiers().contains(Modifier.PROTECTED))) {
        broken(1, "a class inside that is seen outside: " + at(tree));
      }
      int fields = 0;
      for (Tree member : tree.getMembers()) {
        if (member instanceof VariableTree
            && !((VariableTree) member).getModifiers().getFlags().contains(Modifier.STATIC)) {
          fields++;
        }
        if (member.getKind() == Tree.Kind.BLOCK) {
          broken(5, "an initialiser block in " + e);
        }
      }
      if (fields > MOST_FIELDS) {
        broken(11, fields + " fields in " + e);
      }
      return super.visitClass(tree, none);
    }

    @Override public Void visitMethod(MethodTree tree, Void none) {
      methods++;
      Element e = element();
      if (e.getModifiers().contains(Modifier.PUBLIC) && isOwn(e)) {
        entries.add(nameOf(e));
      }
      if (tree.getParameters().size() > MOST_PARAMETERS) {
        broken(11, "more parameters than seven: " + at(tree));
      }
      long first = line(trees.getSourcePositions().getStartPosition(unit, tree));
      long last = line(trees.getSourcePositions().getEndPosition(unit, tree));
      if (last - first >= MOST_LINES) {
        broken(11, "a method of " + (last - first + 1) + " lines: " + at(tree));
      }
      for (ExpressionTree thrown : tree.getThrows()) {
        broken(6, "throws " + thrown);
      }
      return super.visitMethod(tree, none);
    }

    @Override public Void visitVariable(VariableTree tree, Void none) {
      TypeMirror type = trees.getTypeMirror(getCurrentPath());
      boolean isStatic = tree.getModifiers().getFlags().contains(Modifier.STATIC);
      if (isStatic && !(tree.getModifiers().getFlags().contains(Modifier.FINAL) && type.getKind() == TypeKind.INT)) {
        broken(5, "a static field that is no constant: " + at(tree));
      }
      if (!isAllowed(type)) {
        broken(3, "a type that isn't listed: " + at(tree));
      }
      return super.visitVariable(tree, none);
    }

    static boolean isAllowed(TypeMirror type) {
      TypeMirror of = type;
      int dimensions = 0;
      for (; of.getKind() == TypeKind.ARRAY; dimensions++) {
        of = ((ArrayType) of).getComponentType();
      }
      boolean number = of.getKind().isPrimitive() && of.getKind() != TypeKind.BOOLEAN;
      boolean own = of.toString().startsWith("BallastLine");
      return dimensions <= 1 && (of.getKind().isPrimitive() || own) || dimensions == 2 && number;
    }

    @Override public Void visitMethodInvocation(MethodInvocationTree tree, Void none) {
      call(element(), tree);
      return super.visitMethodInvocation(tree, none);
    }

    // Stricter than rule 12: all that the program needs is made with the object.
    @Override public Void visitNewClass(NewClassTree tree, Void none) {
      if (tree.getClassBody() != null) {
        broken(2, "an anonymous class: " + at(tree));
      }
      call(element(), tree);
      isMadeAtFirst(tree);
      return super.visitNewClass(tree, none);
    }

    @Override public Void visitNewArray(NewArrayTree tree, Void none) {
      isMadeAtFirst(tree);
      for (ExpressionTree length : tree.getDimensions()) {
        if (!isConstantAboveNone(length)) {
          broken(7, "a length that is no constant: " + at(tree));
        }
      }
      return super.visitNewArray(tree, none);
    }

    void isMadeAtFirst(Tree tree) {
      if (!here().endsWith(".<init>")) {
        broken(12, "made outside a constructor: " + at(tree));
      }
    }

    boolean isConstantAboveNone(ExpressionTree tree) {
      if (tree instanceof BinaryTree) {
        BinaryTree both = (BinaryTree) tree;
        return tree.getKind() == Tree.Kind.PLUS && isConstantAboveNone(both.getLeftOperand())
            && isConstantAboveNone(both.getRightOperand());
      }
      Object value = null;
      if (tree instanceof LiteralTree) {
        value = ((LiteralTree) tree).getValue();
      } else {
        Element e = trees.getElement(new TreePath(getCurrentPath(), tree));
        if (e instanceof VariableElement) {
          value = ((VariableElement) e).getConstantValue();
        }
      }
      return value instanceof Number && ((Number) value).longValue() > 0;
    }

    @Override public Void visitBinary(BinaryTree tree, Void none) {
      boolean divides = tree.getKind() == Tree.Kind.DIVIDE || tree.getKind() == Tree.Kind.REMAINDER;
      if (divides && !isConstantAboveNone(tree.getRightOperand()) && !isTested(tree.getRightOperand())) {
        broken(7, "a divisor that isn't looked at: " + at(tree));
      }
      if (!typeOf(tree.getLeftOperand()).getKind().isPrimitive()) {
        broken(10, "an operator on what is no number: " + at(tree));
      }
      return super.visitBinary(tree, none);
    }

    @Override public Void visitCompoundAssignment(CompoundAssignmentTree tree, Void none) {
      boolean divides = tree.getKind() == Tree.Kind.DIVIDE_ASSIGNMENT
          || tree.getKind() == Tree.Kind.REMAINDER_ASSIGNMENT;
      if (divides && !isConstantAboveNone(tree.getExpression())) {
        broken(7, "a divisor that isn't looked at: " + at(tree));
      }
      return super.visitCompoundAssignment(tree, none);
    }

    // "among < 1 ? 0 : all / among", or the like with Math.floorDiv.
    boolean isTested(ExpressionTree divisor) {
      for (TreePath p = getCurrentPath(); !(p.getLeaf() instanceof MethodTree); p = p.getParentPath()) {
        if (p.getLeaf() instanceof ConditionalExpressionTree) {
          String condition = ((ConditionalExpressionTree) p.getLeaf()).getCondition().toString();
          return condition.equals("(" + divisor + " < 1)") || condition.equals(divisor + " < 1");
        }
      }
      return false;
    }

    @Override public Void visitForLoop(ForLoopTree tree, Void none) {
      if (tree.getCondition() == null || tree.getUpdate().isEmpty()) {
        broken(9, "a loop without a bound: " + at(tree));
      }
      return super.visitForLoop(tree, none);
    }

    @Override public Void visitWhileLoop(WhileLoopTree tree, Void none) {
      if (tree.getCondition().toString().equals("(true)")) {
        broken(9, "a loop without a bound: " + at(tree));
      }
      return super.visitWhileLoop(tree, none);
    }

    @Override public Void visitTypeCast(TypeCastTree tree, Void none) {
      if (!trees.getTypeMirror(getCurrentPath()).getKind().isPrimitive()) {
        broken(6, "a cast of objects: " + at(tree));
      }
      return super.visitTypeCast(tree, none);
    }

    @Override public Void visitLambdaExpression(LambdaExpressionTree tree, Void none) {
      broken(2, "a lambda: " + at(tree));
      return null;
    }

    @Override public Void visitMemberReference(MemberReferenceTree tree, Void none) {
      broken(2, "a method reference: " + at(tree));
      return null;
    }

    @Override public Void visitThrow(ThrowTree tree, Void none) {
      broken(6, at(tree));
      return null;
    }

    @Override public Void visitTry(TryTree tree, Void none) {
      broken(6, at(tree));
      return null;
    }

    @Override public Void visitSynchronized(SynchronizedTree tree, Void none) {
      broken(6, at(tree));
      return null;
    }

    @Override public Void visitAssert(AssertTree tree, Void none) {
      broken(6, at(tree));
      return null;
    }
  }

  // The longest chain of calls that begins here, the library's among them.
  private static List<String> deepest(String from, Map<String, Set<String>> calls, Map<String, List<String>> known,
      Set<String> open) {
    if (known.containsKey(from)) {
      return known.get(from);
    }
    List<String> longest = new ArrayList<>();
    if (!open.add(from)) {
      broken(8, "a recursion without a guard: " + from);
      return longest;
    }
    for (String next : calls.getOrDefault(from, Set.of())) {
      List<String> on = deepest(next, calls, known, open);
      if (on.size() > longest.size()) {
        longest = on;
      }
    }
    open.remove(from);
    List<String> all = new ArrayList<>(longest);
    all.add(0, from);
    known.put(from, all);
    return all;
  }

  private static void depth(Reader reader) {
    Map<String, List<String>> known = new HashMap<>();
    for (String method : reader.calls.keySet()) {
      List<String> chain = deepest(method, reader.calls, known, new HashSet<>());
      if (reader.entries.contains(method) && chain.size() > MOST_DEEP) {
        broken(11, "calls " + chain.size() + " deep: " + String.join(", ", chain));
      }
    }
  }

  public static void main(String[] args) throws Exception {
    JavaCompiler compiler = ToolProvider.getSystemJavaCompiler();
    try (StandardJavaFileManager files = compiler.getStandardFileManager(null, null, null)) {
      JavacTask task = (JavacTask) compiler.getTask(null, files, null, List.of("-proc:none", "-Xlint:all"), null,
          files.getJavaFileObjects(new File(SOURCE)));
      List<CompilationUnitTree> units = new ArrayList<>();
      task.parse().forEach(units::add);
      task.analyze();
      CompilationUnitTree unit = units.get(0);
      if (unit.getPackageName() != null || unit.getTypeDecls().size() != 1) {
        broken(1, "one public class without a package line is asked for");
      }
      Reader reader = new Reader(Trees.instance(task), unit);
      reader.scan(unit, null);
      depth(reader);
      if (reader.classes > MOST_CLASSES) {
        broken(11, reader.classes + " classes");
      }
      if (reader.methods < reader.entries.size() || reader.entries.size() < 37) {
        broken(1, "the face wasn't found in " + SOURCE);
      }
    }
    System.out.println(wrong == 0 ? "the text keeps to the language" : wrong + " things do not keep to the language");
    if (wrong != 0) {
      System.exit(1);
    }
  }
}
