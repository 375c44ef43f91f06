import java.io.IOException;
import java.io.UncheckedIOException;
import java.net.URL;
import java.net.URLClassLoader;
import java.nio.file.Files;
import java.nio.file.Path;
import java.util.ArrayList;
import java.util.Comparator;
import java.util.List;
import java.util.regex.Matcher;
import java.util.regex.Pattern;
import java.util.stream.Stream;
import javax.tools.ToolProvider;

/** Runs the examples of README.md: a comment that starts with a value tells what is answered. */
public final class ReadmeTest {
  private static final Pattern EXAMPLE = Pattern.compile("(?s)```java\n(.*?)```");
  private static final Pattern ANSWER =
      Pattern.compile("(?m)^(?:int|boolean) (\\w+) = (.*;) +// (-?\\d+|true|false)\\b.*$");

  public static void main(String[] args) throws Exception {
    Matcher examples = EXAMPLE.matcher(Files.readString(Path.of("README.md")));
    Path folder = Files.createTempDirectory("readme");
    int many = 0;
    while (examples.find()) {
      many++;
      run(folder, "Example" + many, examples.group(1));
    }
    remove(folder);
    Check.same("examples", 3, many);
    Check.done();
  }

  private static void run(Path folder, String name, String code) throws Exception {
    String looked = ANSWER.matcher(code).replaceAll("$0\nlooked.add(new Object[] {$3, $1});");
    Path file = folder.resolve(name + ".java");
    Files.writeString(file, "public final class " + name + " {\npublic static void run("
        + "java.util.List<Object[]> looked) {\n" + looked + "}\n}\n");
    int errors = ToolProvider.getSystemJavaCompiler().run(null, null, null, "-proc:none", "-cp",
        System.getProperty("java.class.path"), "-d", folder.toString(), file.toString());
    Check.same(name + ": errors", 0, errors);
    List<Object[]> answers = new ArrayList<>();
    try (URLClassLoader loader = new URLClassLoader(new URL[] {folder.toUri().toURL()})) {
      loader.loadClass(name).getMethod("run", List.class).invoke(null, answers);
    }
    Check.same(name + ": has answers", true, answers.size() > 4);
    for (int i = 0; i < answers.size(); i++) {
      Check.same(name + ": answer " + i, answers.get(i)[0], answers.get(i)[1]);
    }
  }

  private static void remove(Path folder) throws IOException {
    try (Stream<Path> files = Files.walk(folder)) {
      files.sorted(Comparator.reverseOrder()).forEach(ReadmeTest::delete);
    }
  }

  private static void delete(Path file) {
    try {
      Files.delete(file);
    } catch (IOException e) {
      throw new UncheckedIOException(e);
    }
  }
}
