import java.io.IOException;
import java.lang.reflect.Constructor;
import java.lang.reflect.Executable;
import java.lang.reflect.Member;
import java.lang.reflect.Method;
import java.lang.reflect.Modifier;
import java.nio.file.Files;
import java.nio.file.Path;
import java.util.Arrays;
import java.util.HashSet;
import java.util.Set;
import java.util.TreeSet;
import java.util.regex.Matcher;
import java.util.regex.Pattern;
import java.util.stream.Collectors;

/** The class has the document's face, and no other member that can be seen from outside. */
public final class FaceTest {
  private static final Path DOCUMENT = Path.of("../shared/DOC.md");

  public static void main(String[] args) throws IOException {
    Set<String> seen = new TreeSet<>();
    Set<String> publicNames = new HashSet<>();
    Set<String> hidden = new HashSet<>();
    for (Method m : SequentMill.class.getDeclaredMethods()) {
      if (Modifier.isPublic(m.getModifiers())) {
        seen.add(m.getReturnType() + " " + m.getName() + signature(m));
        publicNames.add(m.getName());
      } else {
        hidden.add(m.getName());
        Check.same(m.getName() + " is private", true, isPrivate(m));
      }
    }
    Check.same("the public methods", documented(), seen);
    Check.same("how many", 29, seen.size());
    for (String name : publicNames) {
      Check.same("a private method named " + name, false, hidden.contains(name));
    }
    for (var field : SequentMill.class.getDeclaredFields()) {
      Check.same(field.getName() + " is private", true, isPrivate(field));
    }
    Constructor<?>[] made = SequentMill.class.getDeclaredConstructors();
    Check.same("the constructors", "[public SequentMill()]", Arrays.toString(made));
    Check.same("final", true, Modifier.isFinal(SequentMill.class.getModifiers()));
    Check.done();
  }

  private static boolean isPrivate(Member member) {
    return Modifier.isPrivate(member.getModifiers()) || member.isSynthetic();
  }

  /** What the call takes, by types, and what it throws, in its order. */
  private static String signature(Executable call) {
    String takes = Arrays.stream(call.getParameterTypes()).map(Class::getSimpleName)
        .collect(Collectors.joining(","));
    String thrown = Arrays.stream(call.getExceptionTypes()).map(Class::getSimpleName)
        .collect(Collectors.joining(","));
    return "(" + takes + ")" + thrown;
  }

  /** The methods of the document's face, with no names for what they take. */
  private static Set<String> documented() throws IOException {
    Matcher lines = Pattern.compile("(?m)^ {4}public (\\w+ \\w+)\\((.*?)\\)(?: throws (.*))?;$")
        .matcher(Files.readString(DOCUMENT));
    Set<String> face = new TreeSet<>();
    while (lines.find()) {
      String takes = lines.group(2).replaceAll("(\\w+) \\w+", "$1");
      String thrown = lines.group(3) == null ? "" : lines.group(3);
      face.add(lines.group(1) + ("(" + takes + ")" + thrown).replace(" ", ""));
    }
    return face;
  }
}
