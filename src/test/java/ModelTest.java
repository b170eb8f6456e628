import java.lang.reflect.InvocationTargetException;
import java.lang.reflect.Method;

/** Long runs of all methods with ordinary, edge and wrong arguments, held against the Model call by call. */
final class ModelTest {
  private static final int RUNS = 400;
  private static final int CALLS = 512;
  private static final int SHOWN = 20;

  /**
   * Each method with its arguments: L a kind, ? a yes or no, k a word, w any number, p a place, n how many,
   * c a choice, y a shift, d a small divisor, b a base, s a sign.
   */
  private static final String[] METHODS = {
    "put Lkww", "put Lkww", "put Lkww", "put Lkww", "put Lkww", "copy Lkk", "widen kk?", "narrow kk?", "digit Lkp",
    "set Lkp?", "ofWord Lkc", "mix Lkkc", "complement Lk", "rank Lkp", "select Lkn", "distance Lkk", "areSo Lkkc",
    "only Lk?", "nextSet Lk", "nextSet Lk", "reverse Lk", "reverseBytes Lk", "rotate Lkw", "rotate Lkp",
    "turnsTo Lkk", "shift Lkyc", "swap Lkc", "shuffle Lk?", "weave kkk", "unweave kk?", "gray Lk?", "step Lk",
    "plus Lkk?", "negate Lk", "times Lkk?", "divide Lkk?", "by Lkd", "inverse Lk", "exact Lkk", "extreme Lkk?",
    "compare Lkk?", "polyTimes Lkk", "wholeTimes kkk", "polyDivide Lkk?", "polyGcd Lkk", "polyInverse Lk",
    "type ssssss", "type ssssss", "noText", "hand", "text Lkc", "textIn Lkb", "carry Lkb", "read Lkb", "readNumber Lk",
    "decode Lk", "house c", "knock", "isSound", "digest"
  };

  private static final int[] EDGES = {
    0, 0, 1, 2, 3, 7, 13, -1, -1, -2, -3, Integer.MIN_VALUE, Integer.MIN_VALUE + 1, Integer.MAX_VALUE,
    Integer.MAX_VALUE - 1, 0x55555555, 0xaaaaaaaa, 0x33333333, 0xffff, 0xffff0000, 0x01010101, 64, 32
  };

  private static long seed = 7810;

  private static int below(int bound) {
    seed = seed * 6364136223846793005L + 1442695040888963407L;
    return (int) Long.remainderUnsigned(seed >>> 20, bound);
  }

  private static int anyNumber() {
    switch (below(3)) {
      case 0: return EDGES[below(EDGES.length)];
      case 1: return below(200) - 100;
      default: return below(1 << 16) << 16 | below(1 << 16);
    }
  }

  private static Object argument(char kind) {
    boolean isWrong = below(60) == 0;
    switch (kind) {
      case 'L':
      case '?': return below(2) == 0;
      case 'k': return isWrong ? wrongOf(0, 3) : below(4);
      case 'p': return isWrong ? wrongOf(0, 64) : below(3) == 0 ? below(65) : below(33);
      case 'n': return isWrong ? anyNumber() : below(34) - 1;
      case 'c': return isWrong ? wrongOf(0, 9) : below(3) == 0 ? below(10) : below(5);
      case 'y': return isWrong ? wrongOf(0, 63) : below(3) == 0 ? below(64) : below(33);
      case 'd': return isWrong ? anyNumber() : new int[] {3, 5, 6, 9, 10, below(12)}[below(6)];
      case 'b': return isWrong ? wrongOf(2, 36) : below(3) == 0 ? 10 : 2 + below(35);
      case 's': return isWrong ? wrongOf(-1, 38) : sign();
      default: return anyNumber();
    }
  }

  private static int sign() {
    switch (below(12)) {
      case 0: return below(40) - 1;
      case 1: return 33 + below(6);
      case 2: return 36 + below(2);
      case 3: return 0;
      case 4:
      case 5:
      case 6:
      case 7: return -1;
      default: return below(10);
    }
  }

  private static int wrongOf(int least, int greatest) {
    return new int[] {least - 1, greatest + 1, Integer.MIN_VALUE, Integer.MAX_VALUE}[below(4)];
  }

  private static Method methodOf(Class<?> of, String name) {
    for (Method method : of.getDeclaredMethods()) {
      if (method.getName().equals(name)) {
        return method;
      }
    }
    throw new IllegalStateException(name);
  }

  private static Object answer(Object of, String name, Object[] arguments) throws IllegalAccessException {
    try {
      return methodOf(of.getClass(), name).invoke(of, arguments);
    } catch (InvocationTargetException e) {
      return "throws " + e.getCause().getClass().getSimpleName();
    }
  }

  public static void main(String[] args) throws IllegalAccessException {
    int wrong = 0;
    for (int run = 0; run < RUNS && wrong < SHOWN; run++) {
      Bitwords x = new Bitwords();
      Model model = new Model();
      boolean isShort = run % 2 == 1;
      for (int call = 0; call < CALLS && wrong < SHOWN; call++) {
        // Every other run looks at the whole after each call, so that a change in the wrong place shows at once.
        String[] method = isShort && call % 2 == 1 ? new String[] {"digest"} : METHODS[below(METHODS.length)].split(" ");
        Object[] arguments = new Object[method.length == 1 ? 0 : method[1].length()];
        for (int i = 0; i < arguments.length; i++) {
          arguments[i] = argument(method[1].charAt(i));
        }
        Object got = answer(x, method[0], arguments);
        Object want = answer(model, method[0], arguments);
        if (!got.equals(want)) {
          wrong++;
          System.out.println("run " + run + ", call " + call + ": " + method[0] + java.util.Arrays.toString(arguments)
              + " answered " + got + ", due is " + want);
        }
      }
    }
    System.out.println(RUNS * CALLS + " answers, " + wrong + " of them wrong");
    System.exit(wrong == 0 ? 0 : 1);
  }
}
