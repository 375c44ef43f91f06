import com.sun.source.tree.ArrayAccessTree;
import com.sun.source.tree.ArrayTypeTree;
import com.sun.source.tree.BinaryTree;
import com.sun.source.tree.BlockTree;
import com.sun.source.tree.ClassTree;
import com.sun.source.tree.ForLoopTree;
import com.sun.source.tree.ImportTree;
import com.sun.source.tree.LiteralTree;
import com.sun.source.tree.MethodInvocationTree;
import com.sun.source.tree.MethodTree;
import com.sun.source.tree.NewArrayTree;
import com.sun.source.tree.NewClassTree;
import com.sun.source.tree.ThrowTree;
import com.sun.source.tree.Tree;
import com.sun.source.tree.VariableTree;
import com.sun.source.util.TreePathScanner;
import java.io.IOException;
import java.nio.file.Files;
import java.nio.file.Path;
import java.util.EnumSet;
import java.util.HashSet;
import java.util.List;
import java.util.Set;
import javax.lang.model.element.Element;
import javax.lang.model.element.ElementKind;
import javax.lang.model.element.ExecutableElement;
import javax.lang.model.element.Modifier;
import javax.lang.model.element.VariableElement;
import javax.lang.model.type.TypeMirror;

/** The class keeps to LANGUAGE.md, as far as the compiler's tree of it shows that. */
public final class LanguageTest extends TreePathScanner<Void, Void> {
  private static final Path FILE = Path.of("src/main/java/SequentMill.java");

  /** Rules 2, 6 and 7: what the class does without. */
  private static final Set<Tree.Kind> NEVER = EnumSet.of(Tree.Kind.LAMBDA_EXPRESSION,
      Tree.Kind.MEMBER_REFERENCE, Tree.Kind.TRY, Tree.Kind.SYNCHRONIZED, Tree.Kind.ASSERT,
      Tree.Kind.PACKAGE, Tree.Kind.NULL_LITERAL, Tree.Kind.TYPE_CAST, Tree.Kind.INSTANCE_OF,
      Tree.Kind.DIVIDE, Tree.Kind.REMAINDER, Tree.Kind.DIVIDE_ASSIGNMENT,
      Tree.Kind.REMAINDER_ASSIGNMENT, Tree.Kind.LABELED_STATEMENT, Tree.Kind.ANNOTATION,
      Tree.Kind.DO_WHILE_LOOP, Tree.Kind.INTERFACE, Tree.Kind.ENUM, Tree.Kind.RECORD);

  /** Rule 4: all of the library that the class needs. */
  private static final Set<String> LIBRARY = Set.of("java.util.Arrays.copyOf(int[],int)",
      "java.util.Arrays.fill(int[],int)", "java.lang.Math.max(int,int)");

  private static final Set<String> THROWN = Set.of(Check.INDEX, Check.ARGUMENT, Check.STATE);

  /** Arrays are used in these alone, which look at each index. */
  private static final Set<String> WITH_ARRAYS = Set.of("Row", "Store");

  private static final int MOST_CALLS_DEEP = 8;
  private static final int MOST_LINES = 60;
  private static final int MOST_PARAMETERS = 7;
  private static final int MOST_CLASSES = 12;
  private static final int MOST_FIELDS = 20;

  private final Source source;
  private int classes = 0;

  private LanguageTest(Source source) {
    this.source = source;
  }

  public static void main(String[] args) throws IOException {
    String text = Files.readString(FILE);
    Check.same("characters", true, text.chars().allMatch(c -> c < 128));
    Source source = new Source(FILE);
    LanguageTest test = new LanguageTest(source);
    test.scan(source.unit, null);
    Check.same("classes", true, test.classes > 1 && test.classes <= MOST_CLASSES);
    for (ExecutableElement method : source.methods()) {
      test.callsAreFew(method);
    }
    Check.done();
  }

  /** Rules 8 and 11; a library's call counts as one more. */
  private void callsAreFew(ExecutableElement method) {
    List<ExecutableElement> row = source.deepest(method, new HashSet<>());
    Check.same("not too deep: " + row, true, row.size() <= MOST_CALLS_DEEP);
    if (source.isRecursive(method)) {
      boolean guarded = method.getParameters().stream()
          .anyMatch(parameter -> parameter.getSimpleName().contentEquals("level"));
      Check.same(method + " carries its level", true, guarded);
      Check.same(method + " is private", true, has(method, Modifier.PRIVATE));
    }
  }

  private static boolean has(Element element, Modifier modifier) {
    return element.getModifiers().contains(modifier);
  }

  private Element here() {
    return source.element(getCurrentPath());
  }

  @Override
  public Void scan(Tree tree, Void nothing) {
    if (tree != null) {
      Check.same("found " + tree.getKind() + ": " + tree, false, NEVER.contains(tree.getKind()));
    }
    return super.scan(tree, nothing);
  }

  @Override
  public Void visitImport(ImportTree tree, Void nothing) {
    Check.same("import", "java.util.Arrays", tree.getQualifiedIdentifier().toString());
    return null;
  }

  @Override
  public Void visitClass(ClassTree tree, Void nothing) {
    classes++;
    Element me = here();
    boolean outer = me.getEnclosingElement().getKind() == ElementKind.PACKAGE;
    Check.same(me + " is final", true, has(me, Modifier.FINAL));
    Check.same(me + " is in a class", true, outer || me.getEnclosingElement().getKind().isClass());
    Check.same(me + " is static", true, outer || has(me, Modifier.STATIC));
    Check.same(me + " is seen from outside", outer, has(me, Modifier.PUBLIC));
    Check.same(me + " is protected", false, has(me, Modifier.PROTECTED));
    long fields = me.getEnclosedElements().stream()
        .filter(e -> e.getKind() == ElementKind.FIELD && !has(e, Modifier.STATIC)).count();
    Check.same(me + " has few fields", true, fields <= MOST_FIELDS);
    return super.visitClass(tree, nothing);
  }

  @Override
  public Void visitBlock(BlockTree tree, Void nothing) {
    Check.same("a static block", false, tree.isStatic());
    return super.visitBlock(tree, nothing);
  }

  @Override
  public Void visitVariable(VariableTree tree, Void nothing) {
    VariableElement me = (VariableElement) here();
    if (has(me, Modifier.STATIC)) {
      Check.same(me + " is a constant", true, me.getConstantValue() instanceof Integer);
    }
    Check.same(me + " is of a type that may be", true, isUsed(me.asType()));
    return super.visitVariable(tree, nothing);
  }

  /** Rule 3, as far as the class needs it. */
  private static boolean isUsed(TypeMirror type) {
    String name = type.toString();
    return Set.of("int", "boolean", "int[]").contains(name) || name.startsWith("SequentMill.");
  }

  @Override
  public Void visitMethod(MethodTree tree, Void nothing) {
    String name = here().toString();
    Check.same(name + " is short", true, source.lines(tree) <= MOST_LINES);
    Check.same(name + " takes few", true, tree.getParameters().size() <= MOST_PARAMETERS);
    return super.visitMethod(tree, nothing);
  }

  @Override
  public Void visitMethodInvocation(MethodInvocationTree tree, Void nothing) {
    Element called = here();
    boolean fromSuper = called.getKind() == ElementKind.CONSTRUCTOR;
    String name = called.getEnclosingElement() + "." + called;
    Check.same(name + " may be called", true,
        fromSuper || source.isOwn(called) || LIBRARY.contains(name));
    return super.visitMethodInvocation(tree, nothing);
  }

  @Override
  public Void visitNewClass(NewClassTree tree, Void nothing) {
    boolean thrown = getCurrentPath().getParentPath().getLeaf() instanceof ThrowTree;
    boolean own = isUsed(here().getEnclosingElement().asType());
    Check.same(tree + " may be made", true, thrown || own);
    return super.visitNewClass(tree, nothing);
  }

  @Override
  public Void visitThrow(ThrowTree tree, Void nothing) {
    boolean written = tree.getExpression() instanceof NewClassTree made
        && THROWN.contains(made.getIdentifier().toString())
        && made.getArguments().size() == 1 && made.getArguments().get(0) instanceof LiteralTree;
    Check.same(tree + " is as rule 6 wants it", true, written);
    Check.same(tree + " is in a method of the face or a private one", true, inOuterMethod());
    return super.visitThrow(tree, nothing);
  }

  private boolean inOuterMethod() {
    var path = getCurrentPath();
    while (!(path.getLeaf() instanceof MethodTree)) {
      path = path.getParentPath();
    }
    Element method = source.element(path);
    return method.getKind() == ElementKind.METHOD
        && method.getEnclosingElement().getSimpleName().contentEquals("SequentMill");
  }

  @Override
  public Void visitForLoop(ForLoopTree tree, Void nothing) {
    boolean counted = tree.getCondition() instanceof BinaryTree && tree.getUpdate().size() == 1;
    Check.same("counts against a bound: " + tree.getCondition(), true, counted);
    return super.visitForLoop(tree, nothing);
  }

  @Override
  public Void visitArrayAccess(ArrayAccessTree tree, Void nothing) {
    arrayIsWhereItMayBe(tree);
    return super.visitArrayAccess(tree, nothing);
  }

  @Override
  public Void visitNewArray(NewArrayTree tree, Void nothing) {
    arrayIsWhereItMayBe(tree);
    return super.visitNewArray(tree, nothing);
  }

  @Override
  public Void visitArrayType(ArrayTypeTree tree, Void nothing) {
    arrayIsWhereItMayBe(tree);
    return super.visitArrayType(tree, nothing);
  }

  private void arrayIsWhereItMayBe(Tree tree) {
    var path = getCurrentPath();
    while (!(path.getLeaf() instanceof ClassTree)) {
      path = path.getParentPath();
    }
    String name = source.element(path).getSimpleName().toString();
    Check.same(tree + " in " + name, true, WITH_ARRAYS.contains(name));
  }
}
