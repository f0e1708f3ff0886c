import java.io.IOException;
import java.nio.file.Files;
import java.nio.file.Path;
import java.util.Arrays;
import java.util.List;
import java.util.Set;
import java.util.TreeSet;
import java.util.regex.Matcher;
import java.util.regex.Pattern;

/**
 * What LANGUAGE.md says of the words of the source, and that README.md names each call of the face
 * with what it is asked and throws. It is run from the project's first directory.
 */
public final class LanguageTest {
  private static final int MOST_LINES = 60;
  private static final int MOST_CLASSES = 12;
  private static final int MOST_FIELDS = 20;
  private static final Set<String> LIBRARY = new TreeSet<>(Arrays.asList("Math.abs", "Math.max", "Math.min"));
  private static final Set<String> THROWN = new TreeSet<>(Arrays.asList("IllegalArgumentException",
      "IllegalStateException", "IndexOutOfBoundsException", "NoSuchElementException"));
  private static final String[] NEVER = {
    "try", "catch", "finally", "synchronized", "assert", "volatile", "transient", "native", "protected",
    "var", "instanceof", "enum", "record", "goto", "strictfp", "NaN", "Infinity", "Object",
    "Double", "Float", "StrictMath", "System", "Thread", "Class", "equals", "hashCode", "toString"
  };

  public static void main(String[] args) throws IOException {
    String source = Files.readString(Path.of("src/main/java/Bearingrose.java"));
    String code = source.replaceAll("(?s)/\\*.*?\\*/", " ").replaceAll("//[^\n]*", " ");
    String words = code.replaceAll("\"[^\"\n]*\"", "\"\"");
    signs(source);
    words(words);
    library(words);
    thrown(code);
    sizes(code);
    readme(code, Files.readString(Path.of("README.md")));
    Check.end("LanguageTest");
  }

  private static void signs(String source) {
    Check.sentence("LANGUAGE 3: characters");
    Check.holds("all signs are plain ones", source.chars().allMatch(c -> c == '\n' || c >= 32 && c < 127));
  }

  private static boolean has(String words, String pattern) {
    return Pattern.compile(pattern).matcher(words).find();
  }

  private static void words(String words) {
    Check.sentence("LANGUAGE 2 to 6: what is not there");
    for (String never : NEVER) Check.holds("no " + never, !has(words, "\\b" + never + "\\b"));
    Check.holds("no lambda", !words.contains("->"));
    Check.holds("no method reference", !words.contains("::"));
    Check.holds("no static initialiser", !has(words, "static\\s*\\{"));
    Check.holds("no joining of texts by +", !has(words, "\"\\s*\\+|\\+\\s*\""));
    Check.holds("no package", !has(words, "(?m)^package"));
  }

  private static void library(String words) {
    Check.sentence("LANGUAGE 4: only what stands here");
    Set<String> used = new TreeSet<>();
    Matcher m = Pattern.compile("\\b(Math|Integer|Long|Arrays|List|String|Character)\\.\\w+").matcher(words);
    while (m.find()) used.add(m.group());
    used.removeAll(LIBRARY);
    Check.due("other functions of the library", "[]", () -> used);
    Matcher imports = Pattern.compile("(?m)^import ([^;]*);").matcher(words);
    Check.holds("one import", imports.find());
    Check.due("the import", "java.util.NoSuchElementException", () -> imports.group(1));
    Check.holds("no other import", !imports.find());
  }

  private static void thrown(String code) {
    Check.sentence("LANGUAGE 6: throw new E(\"a written text\")");
    Matcher m = Pattern.compile("\\bthrow\\b([^;]*);").matcher(code);
    int thrown = 0;
    while (m.find()) {
      Matcher e = Pattern.compile(" new (\\w+)\\(\"[\\w ',]*\"\\)").matcher(m.group(1));
      Check.holds(m.group() + " is a plain throw", e.matches() && THROWN.contains(e.group(1)));
      thrown++;
    }
    int found = thrown;
    Check.holds(found + " throws", found > 20);
  }

  /** Methods are told by their first and last lines' indents, which the source keeps to. */
  private static void sizes(String code) {
    Check.sentence("LANGUAGE 11: short methods, few classes, few fields");
    List<String> lines = Arrays.asList(code.split("\n"));
    for (int i = 0; i < lines.size(); i++) {
      Matcher m = Pattern.compile("( {2,4})(?!.*\\b(class|return|new)\\b)\\w[^=;]*\\(.*\\{").matcher(lines.get(i));
      if (!m.matches()) continue;
      int end = i;
      while (end + 1 < lines.size() && !lines.get(end).equals(m.group(1) + "}")) end++;
      int length = end - i + 1;
      Check.holds(lines.get(i).trim() + " has " + length + " lines", length <= MOST_LINES);
    }
    long classes = lines.stream().filter(l -> has(l, "\\bclass \\w+ ")).count();
    Check.holds(classes + " classes", classes <= MOST_CLASSES);
    long fields = lines.stream().filter(l -> has(l, "^ {2,4}private (?!static)[^(]*(=.*)?;")).count();
    Check.holds(fields + " fields of all classes", fields > 0 && fields <= MOST_FIELDS);
  }

  private static void readme(String code, String page) {
    Check.sentence("README.md: each method of the face");
    Matcher m = Pattern.compile("(?m)^  public \\w+ (\\w+)\\(([^)]*)\\)([^{]*)\\{").matcher(code);
    int calls = 0;
    while (m.find()) {
      String asked = m.group(2).replaceAll("\\bint ", "");
      String call = m.group(1) + "(" + asked + ")";
      Matcher row = Pattern.compile("(?m)^\\| `" + Pattern.quote(call) + "` \\|[^|]{9,}\\|([^|]*)\\|$").matcher(page);
      Check.holds(call + " has a row", row.find());
      List<String> thrown = exceptions(m.group(3));
      Check.due(call + ": what it throws, in its order", thrown, () -> exceptions(row.group(1)));
      calls++;
    }
    int found = calls;
    Check.due("calls of the face", 26, () -> found);
  }

  private static List<String> exceptions(String text) {
    return Pattern.compile("\\w+Exception").matcher(text).results().map(r -> r.group()).toList();
  }
}
