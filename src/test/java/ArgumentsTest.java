import java.lang.reflect.Method;
import java.util.ArrayList;
import java.util.Arrays;
import java.util.HashSet;
import java.util.List;
import java.util.Set;

/**
 * Each argument of each promise (in the document: a line that begins with its name), held against the Model: what is
 * answered with it and what stands then, for all numbers around the bounds that any of them has, and for small
 * numbers in all combinations.
 */
final class ArgumentsTest {
  private static final int FIRST = 2;
  private static final int LAST = 54;
  private static final int SHOWN = 20;

  /** In the order of the promises, from the second one on. */
  private static final String[] NAMES = {
    "put", "copy", "widen", "narrow", "digit", "set", "ofWord", "mix", "complement", "rank", "select", "distance",
    "areSo", "only", "nextSet", "reverse", "reverseBytes", "rotate", "turnsTo", "shift", "swap", "shuffle", "weave",
    "unweave", "gray", "step", "plus", "negate", "times", "divide", "by", "inverse", "exact", "extreme", "compare",
    "polyTimes", "wholeTimes", "polyDivide", "polyGcd", "polyInverse", "type", "noText", "hand", "text", "textIn",
    "carry", "read", "readNumber", "decode", "house", "knock", "isSound", "digest"
  };

  /** What stands ahead of a call: the words of both kinds, and the text in hand. */
  private static final long[][] LONGS = {
    {0, 0, 0, 0},
    {0x8000000000000005L, 7, -1, 0x0123456789abcdefL},
    {84, 12, 0x5555555555555555L, 1},
    {-2, 0x00000001ffffffffL, 3, 0x4000000000000001L}
  };
  private static final int[][] SHORTS = {
    {0, 0, 0, 0},
    {0x80000003, 5, -1, 0x01234567},
    {91, 13, 26, 0x33333333},
    {-3, 0x40000001, 0x7fffffff, 6}
  };
  private static final String[] TEXTS = {"", "-12", "+0" + "7".repeat(9), "0x" + "0".repeat(73) + "1ff"};

  private static final Check check = new Check();
  private static int wrong;

  public static void main(String[] args) {
    Document document = Document.ofProperty();
    check.due("the promises with a method", NAMES.length, LAST - FIRST + 1);
    for (int promise = FIRST; promise <= LAST; promise++) {
      Method method = Both.methodOf(NAMES[promise - FIRST]);
      List<String> names = document.argumentsOf(promise);
      if (document.promises() > 0) {
        check.due(promise + ": its signature", document.signatureOf(promise), signatureOf(method, names));
      }
      for (int at = 0; at < method.getParameterCount(); at++) {
        String name = at < names.size() ? names.get(at) : "argument " + at;
        eachValue(promise + ": `" + name + "`: ", method, at);
      }
      smallNumbers(promise + ": ", method);
    }
    check.end();
  }

  private static String signatureOf(Method method, List<String> names) {
    List<String> arguments = new ArrayList<>();
    Class<?>[] types = method.getParameterTypes();
    for (int at = 0; at < types.length; at++) {
      arguments.add(types[at].getSimpleName() + " " + (at < names.size() ? names.get(at) : "?"));
    }
    List<String> exceptions = new ArrayList<>();
    for (Class<?> type : method.getExceptionTypes()) {
      exceptions.add(type.getSimpleName());
    }
    return method.getReturnType().getSimpleName() + " " + method.getName() + "(" + String.join(", ", arguments) + ")"
        + (exceptions.isEmpty() ? "" : " throws " + String.join(", ", exceptions));
  }

  private static Both standing(int state) {
    Both both = new Both();
    for (int k = 0; k < 4; k++) {
      both.call("put", true, k, (int) (LONGS[state][k] >>> 32), (int) LONGS[state][k]);
      both.call("put", false, k, 0, SHORTS[state][k]);
    }
    for (char sign : TEXTS[state].toCharArray()) {
      both.call("type", "0123456789abcdefghijklmnopqrstuvwxyz-+#".indexOf(sign), -1, -1, -1, -1, -1);
    }
    both.call("knock");
    both.call("inverse", true, 4);
    return both;
  }

  /** One argument takes each value, while the others are alike or rising; it must make a difference somewhere. */
  private static void eachValue(String call, Method method, int at) {
    boolean makesADifference = false;
    Class<?>[] types = method.getParameterTypes();
    for (int state = 0; state < LONGS.length; state++) {
      for (int others = 0; others < 8; others++) {
        Set<String> seen = new HashSet<>();
        Object[] arguments = new Object[types.length];
        for (int i = 0; i < types.length; i++) {
          Object number = (others / 2 + i * others) % 4;
          arguments[i] = types[i] == boolean.class ? (Object) (others % 2 == 0) : number;
        }
        for (Object value : valuesOf(types[at])) {
          arguments[at] = value;
          seen.add(calledWith(call, method, state, arguments));
        }
        makesADifference = makesADifference || seen.size() > 1;
      }
    }
    check.due(call + "makes a difference", makesADifference, true);
  }

  private static List<Object> valuesOf(Class<?> type) {
    if (type == boolean.class) {
      return List.of(true, false);
    }
    List<Object> values = new ArrayList<>();
    for (int n = -3; n <= 66; n++) {
      values.add(n);
    }
    for (int n : new int[] {Integer.MIN_VALUE, Integer.MIN_VALUE + 1, -64, -33, -32, -31, 79, 80, 81, 127, 128, 1 << 16,
        0x55555555, Integer.MAX_VALUE - 1, Integer.MAX_VALUE}) {
      values.add(n);
    }
    return values;
  }

  /** All combinations of numbers around those of words; and of fewer, if there are six arguments. */
  private static void smallNumbers(String call, Method method) {
    Class<?>[] types = method.getParameterTypes();
    int values = types.length > 4 ? 3 : 6;
    int combinations = 1;
    for (Class<?> type : types) {
      combinations *= type == boolean.class ? 2 : values;
    }
    for (int state = 0; state < LONGS.length; state++) {
      for (int combination = 0; combination < combinations; combination++) {
        int left = combination;
        Object[] arguments = new Object[types.length];
        for (int i = 0; i < types.length; i++) {
          int choices = types[i] == boolean.class ? 2 : values;
          arguments[i] = types[i] == boolean.class ? (Object) (left % 2 == 0) : (Object) (left % choices - 1);
          left /= choices;
        }
        calledWith(call, method, state, arguments);
      }
    }
  }

  /** Tells the answer and what stands then. */
  private static String calledWith(String call, Method method, int state, Object[] arguments) {
    Both both = standing(state);
    String answered = both.call(method.getName(), arguments);
    String stands = both.compare();
    if (wrong < SHOWN) {
      String of = call + "where state " + state + " stands, " + method.getName() + Arrays.toString(arguments);
      check.due(of + ", wrong answers", answered, "");
      check.due(of + ", and what stands then", stands, "");
      wrong += answered.isEmpty() && stands.isEmpty() ? 0 : 1;
    }
    return both.answer() + " " + both.state();
  }
}
