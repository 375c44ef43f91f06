import java.lang.reflect.Constructor;
import java.lang.reflect.Member;
import java.lang.reflect.Method;
import java.lang.reflect.Modifier;
import java.util.Arrays;
import java.util.HashSet;
import java.util.Set;
import java.util.TreeSet;

/** The class has the document's face, and no other member that can be seen from outside. */
public final class FaceTest {
  /** What each call answers, how many numbers it takes, and what it says it throws. */
  private static final String FACE = """
      int abstracted(2) Index Argument State
      int abstraction(2) Index Argument State
      int antisym(2) Index State
      int applied(2) Index Argument State
      int apply(2) Index Argument State
      int assume(1) Index Argument State
      int axiom(1) Argument State
      int beta(1) Index Argument State
      int conclusion(1) Index State
      int constant(2) Index Argument State
      void cut(1) Argument
      int define(1) Index Argument State
      int defineType(1) Index Argument State
      int equal(2) Index Argument State
      int free(2) Index Argument State
      int hypotheses(1) Index
      int hypothesis(2) Index State
      int put(3) Index Argument State
      int refl(1) Index State
      int retype(5) Index Argument State
      boolean same(2) Index
      int size(0)
      int symbol(2) Index
      int trace(1) Index
      int traced(0)
      int trans(2) Index Argument State
      int type(3) Argument Index State
      int typeOf(1) Index State
      int typeVariable(1) Argument State
      """;

  public static void main(String[] args) {
    Set<String> seen = new TreeSet<>();
    Set<String> publicNames = new HashSet<>();
    Set<String> hidden = new HashSet<>();
    for (Method m : SequentMill.class.getDeclaredMethods()) {
      if (Modifier.isPublic(m.getModifiers())) {
        seen.add(m.getReturnType() + " " + m.getName() + signature(m));
        publicNames.add(m.getName());
      } else {
        hidden.add(m.getName());
        Check.same(m.getName() + " is private", true, isPrivate(m));
      }
    }
    Check.same("the public methods", new TreeSet<>(FACE.lines().toList()), seen);
    Check.same("how many", 29, seen.size());
    for (String name : publicNames) {
      Check.same("a private method named " + name, false, hidden.contains(name));
    }
    for (var field : SequentMill.class.getDeclaredFields()) {
      Check.same(field.getName() + " is private", true, isPrivate(field));
    }
    Constructor<?>[] made = SequentMill.class.getDeclaredConstructors();
    Check.same("the constructors", "[public SequentMill()]", Arrays.toString(made));
    Check.same("final", true, Modifier.isFinal(SequentMill.class.getModifiers()));
    Check.done();
  }

  private static boolean isPrivate(Member member) {
    return Modifier.isPrivate(member.getModifiers()) || member.isSynthetic();
  }

  private static String signature(Method call) {
    for (Class<?> taken : call.getParameterTypes()) {
      Check.same(call.getName() + " takes", int.class, taken);
    }
    StringBuilder text = new StringBuilder("(" + call.getParameterCount() + ")");
    for (Class<?> thrown : call.getExceptionTypes()) {
      text.append(' ').append(thrown.getSimpleName().replaceAll("Illegal|OutOf.*|Exception", ""));
    }
    return text.toString();
  }
}
