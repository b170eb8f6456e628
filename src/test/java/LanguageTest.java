import java.io.IOException;
import java.nio.file.Files;
import java.nio.file.Path;
import java.util.ArrayList;
import java.util.HashSet;
import java.util.LinkedHashMap;
import java.util.List;
import java.util.Map;
import java.util.Set;
import java.util.regex.Matcher;
import java.util.regex.Pattern;

/**
 * What can be seen of ../shared/LANGUAGE.md in the text of the class; the property "source" tells where it lies.
 * The number ahead of a line is that of the rule. (FaceTest looks at rule 1 and at static fields.)
 */
final class LanguageTest {
  private static final Set<String> EXCEPTIONS = Set.of("IllegalStateException", "IllegalArgumentException",
      "IndexOutOfBoundsException", "ArithmeticException", "UnsupportedOperationException", "NoSuchElementException",
      "RuntimeException");

  /** Static functions of Long and Math over int and long, none of which throws; and a constant String, looked into. */
  private static final Set<String> LIBRARY = Set.of("Long.bitCount", "Long.highestOneBit", "Long.lowestOneBit",
      "Long.numberOfLeadingZeros", "Long.numberOfTrailingZeros", "Long.reverse", "Long.reverseBytes", "Math.min",
      "SIGNS.charAt");
  private static final Set<String> TYPES = Set.of("int", "long", "boolean", "byte", "char", "String", "void", "Line");
  private static final Pattern METHOD = Pattern.compile("\\n( {2}| {4})((?:(?:public|private|static|final) )*)"
      + "([A-Za-z\\[\\]]+) (\\w+)\\(([^)]*)\\)\\s*(throws [\\w, \\n]+)?\\{");
  private static final int GREATEST_DEPTH = 8;

  private static final Check check = new Check();

  /** The text without its comments; texts in it hold nothing but "s. */
  private final String code;
  private final String source;
  private final Map<String, String> bodies = new LinkedHashMap<>();

  private LanguageTest(String source) {
    this.source = source;
    this.code = source.replaceAll("\"(?:[^\"\\\\\\n]|\\\\.)*\"", "\"\"").replaceAll("(?s)/\\*.*?\\*/", "")
        .replaceAll("//[^\\n]*", "").replaceAll("'[^']+'", "' '");
    Matcher method = METHOD.matcher(code);
    while (method.find()) {
      String body = bodyFrom(method.end() - 1);
      bodies.merge(method.group(4), body, String::concat);
      looksAt(method, body);
    }
  }

  public static void main(String[] args) throws IOException {
    Path path = Path.of(System.getProperty("source", "src/main/java/Bitwords.java"));
    LanguageTest test = new LanguageTest(Files.readString(path));
    check.due("how many methods it found, which are those of the face and others", test.bodies.size() > 53, true);
    test.oneFile();
    test.library();
    test.exceptions();
    test.words();
    test.texts();
    test.sizes();
    test.calls();
    check.end();
  }

  private String bodyFrom(int start) {
    int open = 0;
    for (int i = start; i < code.length(); i++) {
      open += code.charAt(i) == '{' ? 1 : code.charAt(i) == '}' ? -1 : 0;
      if (open == 0) {
        return code.substring(start, i + 1);
      }
    }
    return code.substring(start);
  }

  private static void looksAt(Matcher method, String body) {
    String name = method.group(4);
    int parameters = method.group(5).isBlank() ? 0 : method.group(5).split(",").length;
    check.due("11: " + name + " takes at most seven parameters, " + parameters, parameters <= 7, true);
    int lines = body.split("\n").length;
    check.due("11: " + name + " is short, " + lines + " lines", lines <= 60, true);
    String type = method.group(3).replace("[]", "");
    boolean isConstructor = type.equals("public");
    check.due("3: " + name + " answers " + type, TYPES.contains(type) || isConstructor, true);
  }

  private List<String> found(String regex, int group) {
    List<String> found = new ArrayList<>();
    Matcher matcher = Pattern.compile(regex).matcher(code);
    while (matcher.find()) {
      found.add(matcher.group(group));
    }
    return found;
  }

  private void oneFile() {
    check.due("1: package or import lines", found("(?m)^\\s*(package|import)\\b", 1), List.of());
    check.due("1: classes at the outside", found("(?m)^(?:\\w+ )*class (\\w+)", 1), List.of("Bitwords"));
    List<String> inside = found("(?m)^  (?:\\w+ )*class (\\w+)", 1);
    check.due("2: all inside are static", found("(?m)^  private static final class (\\w+)", 1), inside);
    check.due("11: at most some twelve classes, " + inside.size(), inside.size() < 12, true);
    for (String type : found("\\bnew (\\w+)(?![\\w<])", 1)) {
      boolean isOwn = inside.contains(type) || EXCEPTIONS.contains(type) || type.matches("long|byte|char|String");
      check.due("4: new " + type, isOwn, true);
    }
  }

  private void library() {
    for (String call : found("\\b([A-Z]\\w*\\.\\w+)\\(", 1)) {
      boolean isOwn = call.matches("(Row|Whole|Poly|Line|Sound)\\..*");
      check.due("4: " + call, isOwn || LIBRARY.contains(call), true);
    }
    for (String call : found("\\.(\\w+)\\(", 1)) {
      check.due("4: ." + call, bodies.containsKey(call) || LIBRARY.toString().contains("." + call)
          || call.equals("charAt"), true);
    }
  }

  private void exceptions() {
    List<String> thrown = found("\\bthrow new (\\w+)\\((?:\"\")?\\);", 1);
    check.due("6: each throw is of a new one with a written text", thrown.size(), found("\\b(throw)\\b", 1).size());
    check.due("6: what is thrown", EXCEPTIONS.containsAll(thrown), true);
    check.due("6: what the machine throws is not caught", found("\\b(catch|try)\\b", 1), List.of());
  }

  private void words() {
    String none = "finally|synchronized|assert|instanceof|hashCode|toString|equals|Thread|Random|System|Exact|Object"
        + "|double|float|null|do";
    check.due("6, 13: words", found("\\b(" + none + ")\\b", 1), List.of());
    check.due("2: lambdas and references", found("(->|::)", 1), List.of());
    check.due("9: loops that are not counted", found("\\b(while)\\b", 1), List.of());
    List<String> loops = found("\\bfor \\(([^;]*;[^;]*;[^;{]*)\\) \\{", 1);
    check.due("9: each for begins with int, a bound and a step", loops.size(), found("\\b(for)\\b", 1).size());
    for (String loop : loops) {
      boolean isCounted = loop.matches("(?s)int (\\w+) = .*; \\1 (<|<=|\\+ 1 <) .*; \\1( \\*= 2|\\+\\+)")
          || loop.matches("(?s)int (\\w+) = .*; \\1 (>|>=) 0; \\1( /= 2|--)");
      check.due("9: for (" + loop + ") has a bound", isCounted, true);
    }
  }

  private void texts() {
    check.due("3: signs", source.chars().allMatch(sign -> sign == '\n' || sign >= ' ' && sign < 127), true);
    check.due("10: texts joined by +", found("(\"\"\\s*\\+|\\+\\s*\"\")", 1), List.of());
  }

  private void sizes() {
    List<Class<?>> classes = new ArrayList<>(List.of(Bitwords.class.getDeclaredClasses()));
    classes.add(Bitwords.class);
    for (Class<?> one : classes) {
      long fields = List.of(one.getDeclaredFields()).stream()
          .filter(field -> !java.lang.reflect.Modifier.isStatic(field.getModifiers())).count();
      check.due("11: " + one + " has at most some twenty fields, " + fields, fields <= 20, true);
    }
  }

  /** Methods of one name count as one here, so the calls may well be less deep, but no deeper. */
  private void calls() {
    for (String name : bodies.keySet()) {
      check.due("8, 11: " + name + " is " + depth(name, new HashSet<>()) + " deep",
          depth(name, new HashSet<>()) <= GREATEST_DEPTH, true);
    }
  }

  private int depth(String name, Set<String> above) {
    if (!above.add(name)) {
      check.due("8: " + name + " calls itself", true, false);
      return GREATEST_DEPTH;
    }
    int deepest = 0;
    Matcher call = Pattern.compile("\\b(\\w+)\\(").matcher(bodies.get(name));
    while (call.find()) {
      String named = bodies.get(name).substring(Math.max(0, call.start() - 5), call.end(1));
      boolean isOfTheLibrary = LIBRARY.contains(named);
      if (bodies.containsKey(call.group(1)) && !isOfTheLibrary) {
        deepest = Math.max(deepest, depth(call.group(1), above));
      }
    }
    above.remove(name);
    return deepest + 1;
  }
}
