import java.lang.reflect.InvocationTargetException;
import java.lang.reflect.Method;
import java.util.Arrays;
import java.util.HashMap;
import java.util.Map;

/** An object and a model of it, called alike: whatever the one answers, the other one must answer too. */
final class Both {
  private static final Map<String, Method> OF_OBJECTS = methodsOf(Bitwords.class);
  private static final Map<String, Method> OF_MODELS = methodsOf(Model.class);

  private final Bitwords x = new Bitwords();
  private final Model model = new Model();
  private Object answer;

  private static Map<String, Method> methodsOf(Class<?> of) {
    Map<String, Method> found = new HashMap<>();
    for (Method method : of.getDeclaredMethods()) {
      // The names of the face stand alone in the class, and the model's own helpers are told apart by the first one.
      if (isOfTheFace(method)) {
        found.put(method.getName(), method);
      }
    }
    return found;
  }

  private static boolean isOfTheFace(Method method) {
    return Arrays.stream(Bitwords.class.getMethods()).anyMatch(face -> face.getDeclaringClass() == Bitwords.class
        && face.getName().equals(method.getName())
        && Arrays.equals(face.getParameterTypes(), method.getParameterTypes()));
  }

  /** The method of the face with that name. */
  static Method methodOf(String name) {
    return OF_OBJECTS.get(name);
  }

  /** Calls both; tells what is wrong with the object's answer, "" if nothing is. */
  String call(String name, Object... arguments) {
    answer = answerOf(OF_OBJECTS.get(name), x, arguments);
    Object want = answerOf(OF_MODELS.get(name), model, arguments);
    return answer.equals(want) ? "" : name + Arrays.toString(arguments) + " answered " + answer + ", due is " + want;
  }

  /** What the last call answered. */
  Object answer() {
    return answer;
  }

  /** What stands in both; tells what is wrong in the object, "" if nothing is. */
  String compare() {
    String got = Check.state(x);
    String want = model.state();
    return got.equals(want) ? "" : "then stands " + got + ", due is " + want;
  }

  String state() {
    return model.state();
  }

  private static Object answerOf(Method method, Object of, Object[] arguments) {
    try {
      return method.invoke(of, arguments);
    } catch (InvocationTargetException e) {
      return "throws " + e.getCause().getClass().getSimpleName();
    } catch (IllegalAccessException e) {
      throw new IllegalStateException(e);
    }
  }
}
