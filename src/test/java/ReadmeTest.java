import java.io.IOException;
import java.lang.reflect.Method;
import java.nio.file.Files;
import java.nio.file.Path;
import java.util.regex.Matcher;
import java.util.regex.Pattern;

/** The calls in README.md, on one object: each answers what stands behind it. The property "readme" tells where it is. */
final class ReadmeTest {
  private static final Pattern CALL = Pattern.compile("x\\.(\\w+)\\((.*)\\); +// (throws \\w+|[^:]+)(:.*)?");
  private static final Check check = new Check();

  public static void main(String[] args) throws IOException {
    Bitwords x = new Bitwords();
    String readme = Files.readString(Path.of(System.getProperty("readme", "README.md")));
    for (String line : readme.split("\n")) {
      Matcher call = CALL.matcher(line);
      if (call.matches()) {
        String answer = answer(x, Both.methodOf(call.group(1)), call.group(2).split(", "));
        check.due(line, answer, call.group(3).trim());
      }
      check.due("a call, or none: " + line, call.matches(), line.startsWith("x."));
    }
    for (Method method : Bitwords.class.getDeclaredMethods()) {
      if (java.lang.reflect.Modifier.isPublic(method.getModifiers())) {
        check.due("it names " + method.getName(), readme.contains("`" + method.getName() + "`"), true);
      }
    }
    check.end();
  }

  private static String answer(Bitwords x, Method method, String[] written) {
    Object[] arguments = new Object[method.getParameterCount()];
    for (int i = 0; i < arguments.length; i++) {
      boolean isNumber = method.getParameterTypes()[i] == int.class;
      arguments[i] = isNumber ? (Object) Integer.parseInt(written[i]) : (Object) Boolean.parseBoolean(written[i]);
    }
    try {
      Object answer = method.invoke(x, arguments);
      return answer instanceof String ? "\"" + answer + "\"" : answer.toString();
    } catch (java.lang.reflect.InvocationTargetException e) {
      return "throws " + e.getCause().getClass().getSimpleName();
    } catch (IllegalAccessException e) {
      throw new IllegalStateException(e);
    }
  }
}
