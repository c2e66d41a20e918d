import java.nio.file.Files;
import java.util.Arrays;
import java.util.regex.Matcher;
import java.util.regex.Pattern;

/** The rules of LANGUAGE.md that can be seen in the words of the source. */
public final class LanguageTest {
  private static final String[] WORDS = {
    "throw", "throws", "try", "catch", "finally", "synchronized", "assert", "native", "volatile", "transient",
    "import", "package", "var", "yield", "Object", "System.out", "double", "float", "hashCode", "toString",
    "Thread", "Random", "hashCode", "getClass", "this\\(", "super"};
  private static final String[] LIBRARY = {"Math", "Integer", "System"};

  public static void main(String[] args) throws Exception {
    Checks c = new Checks();
    String source = Files.readString(Checks.root().resolve("src/main/java/BreathStreet.java"));
    String code = source.replaceAll("(?s)/\\*.*?\\*/", "").replaceAll("//[^\n]*", "");
    for (String word : WORDS) {
      c.due("the word " + word, count(code, "\\b" + word + (word.endsWith("(") ? "" : "\\b")), 0);
    }
    c.due("lambdas", count(code, "->"), 0);
    c.due("method references", count(code, "::"), 0);
    c.due("static blocks", count(code, "static\\s*\\{"), 0);
    c.due("names that end in Exact", count(code, "Exact\\b"), 0);
    c.due("endless loops", count(code, "for \\(;;|while \\(true"), 0);
    c.due("signs beyond 127", count(source, "[^\\x00-\\x7f]"), 0);
    made(c, code);
    libraryCalls(c, code);
    lengths(c, code);
    c.finish();
  }

  private static int count(String code, String what) {
    Matcher m = Pattern.compile(what).matcher(code);
    int n = 0;
    while (m.find()) {
      n++;
    }
    return n;
  }

  /** All is made with the object: a call that made anything would fill the room that all calls share. */
  private static void made(Checks c, String code) {
    String inFields = "(?m)^ +private (?:final )?\\w+(?:\\[\\])? \\w+ = new |^ +final \\w+(?:\\[\\])? \\w+ = new ";
    c.due("what is made outside of fields", count(code, "\\bnew\\b") - count(code, inFields), 0);
    c.due("copies of rows", count(code, "\\b(?:clone|copyOf|copyOfRange)\\("), 0);
  }

  private static void libraryCalls(Checks c, String code) {
    Matcher m = Pattern.compile("\\b([A-Z][A-Za-z]+)\\.([a-zA-Z]+)\\(").matcher(code);
    while (m.find()) {
      c.due("library class " + m.group(1), Arrays.asList(LIBRARY).contains(m.group(1)) ? 1 : 0, 1);
      if (m.group(1).equals("System")) {
        c.same("of System", m.group(2), "arraycopy");
      }
    }
  }

  /** Methods stay under some sixty lines and take seven parameters at most. */
  private static void lengths(Checks c, String code) {
    Matcher m = Pattern.compile("\n( +)(?:[a-z]+ )*[A-Za-z\\[\\]]+ ([a-zA-Z]+)\\(([^)]*)\\) \\{\n").matcher(code);
    while (m.find()) {
      int end = code.indexOf("\n" + m.group(1) + "}", m.end() - 1);
      int lines = code.substring(m.end(), Math.max(m.end(), end)).split("\n").length;
      c.due(m.group(2) + " stays short", lines <= 60 ? 1 : 0, 1);
      c.due(m.group(2) + " takes seven at most", m.group(3).split(",").length <= 7 ? 1 : 0, 1);
    }
  }
}
