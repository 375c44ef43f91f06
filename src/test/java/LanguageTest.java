import java.io.IOException;
import java.nio.file.Files;
import java.nio.file.Path;
import java.util.List;
import java.util.regex.Matcher;
import java.util.regex.Pattern;

/** The class keeps to the words of LANGUAGE.md, as far as its text shows it. */
public final class LanguageTest {
  private static final List<String> NEVER = List.of("\\bfinally\\b", "\\bsynchronized\\b",
      "\\bassert\\b", "\\bcatch\\b", "\\btry\\b", "->", "::", "\\bpackage\\b", "\\bprotected\\b",
      "\\bThread\\b", "\\bSystem\\b", "\\bstatic\\s*\\{", "\\bint\\[\\]\\[\\]", "Exact\\b",
      "\\bnew Random\\b", "getMessage", "\\.equals\\(", "hashCode", "toString");

  public static void main(String[] args) throws IOException {
    String text = Files.readString(Path.of("src/main/java/SequentMill.java"));
    String code = text.replaceAll("(?s)/\\*.*?\\*/", "").replaceAll("//[^\n]*", "");
    for (String never : NEVER) {
      Check.same("found " + never, false, Pattern.compile(never).matcher(code).find());
    }
    Matcher imports = Pattern.compile("import ([^;]*);").matcher(code);
    while (imports.find()) {
      Check.same("import", "java.util.Arrays", imports.group(1));
    }
    Matcher thrown = Pattern.compile("throw new (\\w+)\\(").matcher(code);
    while (thrown.find()) {
      boolean listed = List.of(Check.INDEX, Check.ARGUMENT, Check.STATE).contains(thrown.group(1));
      Check.same("throw of " + thrown.group(1), true, listed);
    }
    Check.same("characters", true, text.chars().allMatch(c -> c < 128));
    sizes(code);
    Check.done();
  }

  /** Rule 11: parameters, lines of a method, classes; a method ends where its indent comes again. */
  private static void sizes(String code) {
    Matcher headers = Pattern.compile("(?m)^( {2}| {4})(?:[\\w\\[\\]]+ )+(\\w+)\\(([^)]*)\\)"
        + "[^;{]*\\{$").matcher(code);
    int methods = 0;
    while (headers.find()) {
      methods++;
      String name = headers.group(2);
      int end = code.indexOf("\n" + headers.group(1) + "}", headers.end());
      long lines = code.substring(headers.start(), end).lines().count();
      Check.same(name + " is short", true, end > 0 && lines <= 60);
      Check.same(name + " takes few", true, headers.group(3).split(",").length <= 7);
    }
    Check.same("methods", true, methods > 100);
    long classes = Pattern.compile("\\bclass \\w+").matcher(code).results().count();
    Check.same("classes", true, classes <= 12);
  }
}
