import java.lang.reflect.Constructor;
import java.lang.reflect.Member;
import java.lang.reflect.Method;
import java.lang.reflect.Modifier;
import java.util.Arrays;
import java.util.List;
import java.util.TreeSet;

/** The class has the document's face, and no other member that can be seen from outside. */
public final class FaceTest {
  private static final List<String> FACE = List.of(
      "int abstracted(2)", "int abstraction(2)", "int antisym(2)", "int applied(2)", "int apply(2)",
      "int assume(1)", "int axiom(1)", "int beta(1)", "int conclusion(1)", "int constant(2)",
      "void cut(1)", "int define(1)", "int defineType(1)", "int equal(2)", "int free(2)",
      "int hypotheses(1)", "int hypothesis(2)", "int put(3)", "int refl(1)", "int retype(5)",
      "boolean same(2)", "int size(0)", "int symbol(2)", "int trace(1)", "int traced(0)",
      "int trans(2)", "int type(3)", "int typeOf(1)", "int typeVariable(1)");

  public static void main(String[] args) {
    TreeSet<String> seen = new TreeSet<>();
    TreeSet<String> hidden = new TreeSet<>();
    for (Method m : SequentMill.class.getDeclaredMethods()) {
      if (Modifier.isPublic(m.getModifiers())) {
        seen.add(m.getReturnType() + " " + m.getName() + "(" + m.getParameterCount() + ")");
      } else {
        hidden.add(m.getName());
        Check.same(m.getName() + " is private", true, isPrivate(m));
      }
    }
    Check.same("the public methods", new TreeSet<>(FACE), seen);
    for (String method : FACE) {
      String name = method.substring(method.indexOf(' ') + 1, method.indexOf('('));
      Check.same("a private method named " + name, false, hidden.contains(name));
    }
    for (var field : SequentMill.class.getDeclaredFields()) {
      Check.same(field.getName() + " is private", true, isPrivate(field));
    }
    Constructor<?>[] made = SequentMill.class.getDeclaredConstructors();
    Check.same("the constructors", "[public SequentMill()]", Arrays.toString(made));
    Check.same("final", true, Modifier.isFinal(SequentMill.class.getModifiers()));
    Check.done();
  }

  private static boolean isPrivate(Member member) {
    return Modifier.isPrivate(member.getModifiers()) || member.isSynthetic();
  }
}
