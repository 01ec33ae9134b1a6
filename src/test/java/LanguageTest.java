import com.sun.source.tree.BinaryTree;
import com.sun.source.tree.ClassTree;
import com.sun.source.tree.CompilationUnitTree;
import com.sun.source.tree.ExpressionTree;
import com.sun.source.tree.ForLoopTree;
import com.sun.source.tree.MethodInvocationTree;
import com.sun.source.tree.MethodTree;
import com.sun.source.tree.NewArrayTree;
import com.sun.source.tree.NewClassTree;
import com.sun.source.tree.ThrowTree;
import com.sun.source.tree.Tree;
import com.sun.source.tree.TypeCastTree;
import com.sun.source.tree.VariableTree;
import com.sun.source.util.JavacTask;
import com.sun.source.util.SourcePositions;
import com.sun.source.util.TreePath;
import com.sun.source.util.TreePathScanner;
import com.sun.source.util.Trees;
import java.nio.file.Path;
import java.util.EnumSet;
import java.util.Map;
import java.util.Set;
import java.util.TreeMap;
import java.util.TreeSet;
import javax.lang.model.element.Element;
import javax.lang.model.element.ElementKind;
import javax.lang.model.element.ExecutableElement;
import javax.lang.model.element.Modifier;
import javax.tools.JavaCompiler;
import javax.tools.StandardJavaFileManager;
import javax.tools.ToolProvider;

/**
 * Ownshelf.java against those rules of LANGUAGE.md that can be read off its trees. The test is
 * stricter than they are where the class does without what they leave: all loops count up, nothing
 * is caught, no method but a constructor makes an object. A change that needs more may loosen it.
 */
public final class LanguageTest extends TreePathScanner<Void, Void> {
  private static final Path SOURCE = Path.of("src/main/java/Ownshelf.java");
  private static final String CONSTRUCTOR = "<init>";
  private static final int DEEPEST = 8;

  private static final Set<Tree.Kind> RULED_OUT =
      EnumSet.of(
          Tree.Kind.LAMBDA_EXPRESSION,
          Tree.Kind.MEMBER_REFERENCE,
          Tree.Kind.TRY,
          Tree.Kind.SYNCHRONIZED,
          Tree.Kind.ASSERT,
          Tree.Kind.WHILE_LOOP,
          Tree.Kind.DO_WHILE_LOOP,
          Tree.Kind.DIVIDE_ASSIGNMENT,
          Tree.Kind.REMAINDER_ASSIGNMENT);

  private static final Set<String> LIBRARY =
      Set.of(
          "StringBuilder.append(char)",
          "StringBuilder.append(java.lang.String)",
          "StringBuilder.charAt(int)",
          "StringBuilder.length()",
          "StringBuilder.setLength(int)",
          "StringBuilder.toString()",
          "Math.max(int,int)");

  private static final Set<String> TYPES =
      Set.of("void", "int", "long", "boolean", "char", "int[]", "String", "StringBuilder");

  private static final Set<String> EXCEPTIONS =
      Set.of("IndexOutOfBoundsException", "IllegalArgumentException", "IllegalStateException");

  private final Trees trees;
  private final CompilationUnitTree unit;
  private final Set<String> publicMethods = new TreeSet<>();
  private final Set<String> otherMethods = new TreeSet<>();
  /** By name: the methods of the class that one calls. */
  private final Map<String, Set<String>> calls = new TreeMap<>();
  private int classes = 0;
  /** Empty outside of methods. */
  private String method = "";

  private LanguageTest(Trees trees, CompilationUnitTree unit) {
    this.trees = trees;
    this.unit = unit;
  }

  public static void main(String[] arguments) throws Exception {
    JavaCompiler compiler = ToolProvider.getSystemJavaCompiler();
    try (StandardJavaFileManager files = compiler.getStandardFileManager(null, null, null)) {
      Iterable<String> options = Set.of("-proc:none");
      JavacTask task =
          (JavacTask)
              compiler.getTask(null, files, null, options, null, files.getJavaFileObjects(SOURCE));
      CompilationUnitTree unit = task.parse().iterator().next();
      task.analyze();
      new LanguageTest(Trees.instance(task), unit).readAll();
    }
    Check.end("LanguageTest");
  }

  private void readAll() {
    scan(unit, null);
    Check.part("rule 1");
    Check.due("package", unit.getPackageName(), null);
    Check.due("imports", unit.getImports().size(), 0);
    Check.due("classes beside the public one", unit.getTypeDecls().size() - 1, 0);
    otherMethods.retainAll(publicMethods);
    Check.due("other methods with the name of a public one", otherMethods, Set.of());
    Check.part("rule 11");
    Check.due("classes, at most twelve", Math.max(classes, 12), 12);
    for (String name : publicMethods) {
      Check.due("how deep " + name + " goes, at most", Math.max(depth(name, 1), DEEPEST), DEEPEST);
    }
  }

  /** How many calls stand open at once, down to one more than there may be. */
  private int depth(String name, int here) {
    int most = here;
    if (here <= DEEPEST) {
      for (String called : calls.getOrDefault(name, Set.of())) {
        most = Math.max(most, depth(called, here + 1));
      }
    }
    return most;
  }

  private long line(long position) {
    return unit.getLineMap().getLineNumber(position);
  }

  private void rule(String rule, Tree tree, boolean isKept) {
    SourcePositions positions = trees.getSourcePositions();
    Check.part("rule " + rule + ", line " + line(positions.getStartPosition(unit, tree)));
    Check.due(tree.getKind() + " is as the rule says", isKept, true);
  }

  private Element here() {
    return trees.getElement(getCurrentPath());
  }

  private static String plain(Object name) {
    return name.toString().replaceFirst("^java\\.lang\\.(Abstract(?=StringB))?", "");
  }

  private boolean isText(TreePath path) {
    return plain(trees.getTypeMirror(path)).equals("String");
  }

  private static boolean isOwn(String type) {
    return type.matches("(<anonymous )?Ownshelf(\\.\\w+)?>?");
  }

  private static boolean isRightType(Object type) {
    String name = plain(type);
    return TYPES.contains(name) || isOwn(name.replaceFirst("\\[\\]$", ""));
  }

  @Override
  public Void scan(Tree tree, Void nothing) {
    if (tree != null && RULED_OUT.contains(tree.getKind())) {
      rule("2, 6, 7 or 9", tree, false);
    }
    return super.scan(tree, nothing);
  }

  @Override
  public Void visitClass(ClassTree tree, Void nothing) {
    classes += tree.getSimpleName().isEmpty() ? 0 : 1;
    long fields =
        tree.getMembers().stream()
            .filter(VariableTree.class::isInstance)
            .filter(f -> !((VariableTree) f).getModifiers().getFlags().contains(Modifier.STATIC))
            .count();
    rule("11", tree, fields <= 20);
    return super.visitClass(tree, nothing);
  }

  @Override
  public Void visitMethod(MethodTree tree, Void nothing) {
    SourcePositions positions = trees.getSourcePositions();
    long first = line(positions.getStartPosition(unit, tree));
    long last = line(positions.getEndPosition(unit, tree));
    rule("11", tree, last - first < 60 && tree.getParameters().size() <= 7);
    ExecutableElement element = (ExecutableElement) here();
    rule("3", tree, isRightType(element.getReturnType()));
    method = tree.getName().toString();
    if (element.getModifiers().contains(Modifier.PUBLIC)) {
      publicMethods.add(method);
    } else if (!method.equals(CONSTRUCTOR)) {
      otherMethods.add(method);
    }
    super.visitMethod(tree, nothing);
    method = "";
    return null;
  }

  @Override
  public Void visitVariable(VariableTree tree, Void nothing) {
    Element variable = here();
    rule("3", tree, isRightType(variable.asType()));
    if (variable.getModifiers().contains(Modifier.STATIC)) {
      rule("5", tree, variable.getModifiers().contains(Modifier.FINAL));
    }
    return super.visitVariable(tree, nothing);
  }

  @Override
  public Void visitMethodInvocation(MethodInvocationTree tree, Void nothing) {
    Element called = here();
    String type = plain(called.getEnclosingElement());
    if (called.getKind() == ElementKind.CONSTRUCTOR) {
      return null; // the super() that javac writes ahead of each constructor
    }
    if (isOwn(type)) {
      calls.computeIfAbsent(method, m -> new TreeSet<>()).add(called.getSimpleName().toString());
    } else {
      rule("4", tree, LIBRARY.contains(type + "." + called));
    }
    return super.visitMethodInvocation(tree, nothing);
  }

  @Override
  public Void visitNewClass(NewClassTree tree, Void nothing) {
    String type = plain(trees.getTypeMirror(getCurrentPath()));
    if (getCurrentPath().getParentPath().getLeaf() instanceof ThrowTree) {
      rule("6", tree, EXCEPTIONS.contains(type));
      for (ExpressionTree text : tree.getArguments()) {
        rule("6", text, text.getKind() == Tree.Kind.STRING_LITERAL);
      }
    } else {
      rule("3", tree, isOwn(type) || type.equals("StringBuilder"));
      rule("12", tree, method.isEmpty() || method.equals(CONSTRUCTOR));
    }
    return super.visitNewClass(tree, nothing);
  }

  @Override
  public Void visitNewArray(NewArrayTree tree, Void nothing) {
    rule("12", tree, method.isEmpty());
    return super.visitNewArray(tree, nothing);
  }

  @Override
  public Void visitThrow(ThrowTree tree, Void nothing) {
    rule("6", tree, tree.getExpression() instanceof NewClassTree && !method.equals(CONSTRUCTOR));
    return super.visitThrow(tree, nothing);
  }

  @Override
  public Void visitBinary(BinaryTree tree, Void nothing) {
    rule("10", tree, !isText(getCurrentPath()));
    if (tree.getKind() == Tree.Kind.EQUAL_TO || tree.getKind() == Tree.Kind.NOT_EQUAL_TO) {
      rule("6", tree, !isText(new TreePath(getCurrentPath(), tree.getLeftOperand())));
    }
    if (tree.getKind() == Tree.Kind.DIVIDE || tree.getKind() == Tree.Kind.REMAINDER) {
      rule("7", tree, tree.getRightOperand().toString().matches("[1-9]\\d*"));
    }
    return super.visitBinary(tree, nothing);
  }

  @Override
  public Void visitTypeCast(TypeCastTree tree, Void nothing) {
    rule("6", tree, tree.getType().toString().equals("char"));
    return super.visitTypeCast(tree, nothing);
  }

  @Override
  public Void visitForLoop(ForLoopTree tree, Void nothing) {
    String head = tree.getCondition() + "; " + tree.getUpdate();
    rule("9", tree, head.matches("(\\w+) <=? .*; \\1\\+\\+;"));
    return super.visitForLoop(tree, nothing);
  }
}
