import com.sun.source.tree.ClassTree;
import com.sun.source.tree.CompilationUnitTree;
import com.sun.source.tree.MethodInvocationTree;
import com.sun.source.tree.MethodTree;
import com.sun.source.tree.NewClassTree;
import com.sun.source.tree.Tree;
import com.sun.source.util.JavacTask;
import com.sun.source.util.TreePath;
import com.sun.source.util.TreePathScanner;
import com.sun.source.util.Trees;
import java.io.IOException;
import java.nio.file.Path;
import java.util.ArrayList;
import java.util.Collection;
import java.util.LinkedHashMap;
import java.util.LinkedHashSet;
import java.util.List;
import java.util.Map;
import java.util.Set;
import javax.lang.model.element.Element;
import javax.lang.model.element.ExecutableElement;
import javax.tools.JavaCompiler;
import javax.tools.StandardJavaFileManager;
import javax.tools.ToolProvider;

/** The class as the compiler reads it, and which of its methods call which. */
final class Source {
  final CompilationUnitTree unit;
  private final Trees trees;
  private final Map<ExecutableElement, Set<ExecutableElement>> calls = new LinkedHashMap<>();

  Source(Path path) throws IOException {
    JavaCompiler compiler = ToolProvider.getSystemJavaCompiler();
    StandardJavaFileManager files = compiler.getStandardFileManager(null, null, null);
    JavacTask task = (JavacTask) compiler.getTask(null, files, null, List.of("-proc:none"), null,
        files.getJavaFileObjects(path));
    unit = task.parse().iterator().next();
    task.analyze();
    trees = Trees.instance(task);
    new Callers().scan(unit, null);
  }

  Element element(TreePath path) {
    return trees.getElement(path);
  }

  long lines(Tree tree) {
    long start = trees.getSourcePositions().getStartPosition(unit, tree);
    long end = trees.getSourcePositions().getEndPosition(unit, tree);
    return unit.getLineMap().getLineNumber(end) - unit.getLineMap().getLineNumber(start) + 1;
  }

  Collection<ExecutableElement> methods() {
    return calls.keySet();
  }

  boolean isOwn(Element method) {
    return calls.containsKey(method);
  }

  /** Whether the method can come to be called again while it is open. */
  boolean isRecursive(ExecutableElement method) {
    Set<ExecutableElement> reached = new LinkedHashSet<>(calls.get(method));
    List<ExecutableElement> open = new ArrayList<>(reached);
    while (!open.isEmpty()) {
      for (ExecutableElement next : calls.getOrDefault(open.remove(0), Set.of())) {
        if (reached.add(next)) {
          open.add(next);
        }
      }
    }
    return reached.contains(method);
  }

  /** The longest row of calls in each other that starts so, without calling one of them again. */
  List<ExecutableElement> deepest(ExecutableElement method, Set<ExecutableElement> open) {
    List<ExecutableElement> best = List.of();
    open.add(method);
    for (ExecutableElement next : calls.getOrDefault(method, Set.of())) {
      List<ExecutableElement> row = open.contains(next) ? List.of() : deepest(next, open);
      best = row.size() > best.size() ? row : best;
    }
    open.remove(method);
    List<ExecutableElement> whole = new ArrayList<>(List.of(method));
    whole.addAll(best);
    return whole;
  }

  private final class Callers extends TreePathScanner<Void, ExecutableElement> {
    @Override
    public Void visitClass(ClassTree tree, ExecutableElement caller) {
      return super.visitClass(tree, null);
    }

    @Override
    public Void visitMethod(MethodTree tree, ExecutableElement caller) {
      ExecutableElement method = (ExecutableElement) element(getCurrentPath());
      calls.put(method, new LinkedHashSet<>());
      return super.visitMethod(tree, method);
    }

    @Override
    public Void visitMethodInvocation(MethodInvocationTree tree, ExecutableElement caller) {
      note(caller);
      return super.visitMethodInvocation(tree, caller);
    }

    @Override
    public Void visitNewClass(NewClassTree tree, ExecutableElement caller) {
      note(caller);
      return super.visitNewClass(tree, caller);
    }

    private void note(ExecutableElement caller) {
      if (caller != null && element(getCurrentPath()) instanceof ExecutableElement called) {
        calls.get(caller).add(called);
      }
    }
  }
}
