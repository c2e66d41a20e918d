import java.io.File;
import java.io.IOException;
import java.lang.reflect.Method;
import java.lang.reflect.Modifier;
import java.net.URL;
import java.net.URLClassLoader;
import java.nio.file.Files;
import java.nio.file.Path;
import java.util.TreeSet;
import java.util.regex.Matcher;
import java.util.regex.Pattern;
import java.util.stream.Stream;
import javax.tools.JavaCompiler;
import javax.tools.ToolProvider;

/** README.md answers as it says: its example, the calls it names, the tests it lists. */
public final class ReadmeTest {
  private static final Pattern ANSWERED = Pattern.compile("(?m)^(x\\.[^;]+);\\s*// (-?\\d+): .*$");
  private static final int LEAST_ANSWERS = 20;

  public static void main(String[] args) throws Exception {
    Checks c = new Checks();
    String page = Files.readString(Checks.root().resolve("README.md"));
    testsAreListed(c, page);
    callsAreNamed(c, page);
    exampleAnswers(c, page);
    c.finish();
  }

  private static void testsAreListed(Checks c, String page) throws IOException {
    TreeSet<String> listed = found("(?m)^\\| (\\w+Test) \\|", page);
    TreeSet<String> there = new TreeSet<>();
    TreeSet<String> shared = new TreeSet<>();
    try (Stream<Path> files = Files.list(Checks.root().resolve("src/test/java"))) {
      for (Path file : (Iterable<Path>) files::iterator) {
        String name = file.getFileName().toString().replaceAll("\\.java$", "");
        (name.endsWith("Test") ? there : shared).add(name);
        boolean hasMain = Files.readString(file).contains("public static void main(");
        c.due(name + " is a test by its name and by its main", hasMain ? 1 : 0, name.endsWith("Test") ? 1 : 0);
      }
    }
    c.same("tests that README.md lists", listed.toString(), there.toString());
    for (String name : shared) {
      c.due("README.md names " + name, page.contains("`" + name + "`") ? 1 : 0, 1);
    }
  }

  private static void callsAreNamed(Checks c, String page) {
    int from = page.indexOf("The calls:");
    int to = page.indexOf("## Tests");
    c.due("README.md has its calls ahead of its tests", from >= 0 && from < to ? 1 : 0, 1);
    TreeSet<String> face = new TreeSet<>();
    for (Method m : BreathStreet.class.getDeclaredMethods()) {
      if (Modifier.isPublic(m.getModifiers())) {
        face.add(m.getName());
      }
    }
    TreeSet<String> named = found("`([a-z]\\w*)`", page.substring(Math.max(0, from), Math.max(0, to)));
    c.same("calls that README.md names", named.toString(), face.toString());
  }

  private static TreeSet<String> found(String what, String in) {
    TreeSet<String> all = new TreeSet<>();
    Matcher m = Pattern.compile(what).matcher(in);
    while (m.find()) {
      all.add(m.group(1));
    }
    return all;
  }

  /** The example is compiled as it stands, but that each call with a told answer is looked at. */
  private static void exampleAnswers(Checks c, String page) throws Exception {
    Matcher block = Pattern.compile("(?s)```java\n(.*?)```").matcher(page);
    if (!block.find()) {
      c.due("README.md has an example", 0, 1);
      return;
    }
    String example = block.group(1);
    long comments = example.lines().filter(line -> line.contains("//")).count();
    c.due("every comment of the example tells an answer", ANSWERED.matcher(example).results().count(), comments);
    c.due("the example tells many answers", comments >= LEAST_ANSWERS ? 1 : 0, 1);
    String body = ANSWERED.matcher(example).replaceAll(m -> Matcher.quoteReplacement(looked(m.group(1), m.group(2))));
    String source = "public class Example { public static String wrong() { StringBuilder w = new StringBuilder();\n"
        + body + "return w.toString(); } }\n";
    c.same("answers of README.md's example", ran(c, source), "");
  }

  private static String looked(String call, String want) {
    String name = call.replace("\"", "").replace('\'', ' ');
    return "{ int got = " + call + "; if (got != " + want + ") { w.append(\"" + name + " answered \" + got + \"; \"); } }";
  }

  private static String ran(Checks c, String source) throws Exception {
    JavaCompiler compiler = ToolProvider.getSystemJavaCompiler();
    if (compiler == null) {
      return "there is no compiler";
    }
    Path dir = Files.createTempDirectory("readme");
    Path file = dir.resolve("Example.java");
    Path made = dir.resolve("Example.class");
    try {
      Files.writeString(file, source);
      String classes = System.getProperty("java.class.path") + File.pathSeparator + dir;
      int failed = compiler.run(null, null, null, "-cp", classes, "-d", dir.toString(), file.toString());
      c.due("the example compiles", failed, 0);
      return failed == 0 ? answered(dir) : "";
    } finally {
      Files.deleteIfExists(made);
      Files.deleteIfExists(file);
      Files.deleteIfExists(dir);
    }
  }

  private static String answered(Path dir) throws Exception {
    try (URLClassLoader loader = new URLClassLoader(new URL[] {dir.toUri().toURL()})) {
      return (String) loader.loadClass("Example").getMethod("wrong").invoke(null);
    }
  }
}
