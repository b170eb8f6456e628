import java.util.List;
import java.util.Set;
import java.util.TreeSet;

/**
 * Long runs of all methods with ordinary, edge and wrong arguments, held against the Model call by call, up to the
 * 512th call on one object.
 */
final class ModelTest {
  private static final int CALLS = 512;
  private static final int SHOWN = 20;

  /** How a run chooses its calls; each method is the last call of a run of each kind. */
  private enum Mood {
    ANY, LOOKING, READING, COUNTING
  }

  /**
   * Each method with its arguments: L a kind, ? a yes or no, k a word, w any number, p a place, n how many,
   * c a choice, y a shift, d a small divisor, b a base, s a sign.
   */
  private static final String[] METHODS = {
    "put Lkww", "copy Lkk", "widen kk?", "narrow kk?", "digit Lkp", "set Lkp?", "ofWord Lkc", "mix Lkkc",
    "complement Lk", "rank Lkp", "select Lkn", "distance Lkk", "areSo Lkkc", "only Lk?", "nextSet Lk", "reverse Lk",
    "reverseBytes Lk", "rotate Lkw", "turnsTo Lkk", "shift Lkyc", "swap Lkc", "shuffle Lk?", "weave kkk",
    "unweave kk?", "gray Lk?", "step Lk", "plus Lkk?", "negate Lk", "times Lkk?", "divide Lkk?", "by Lkd",
    "inverse Lk", "exact Lkk", "extreme Lkk?", "compare Lkk?", "polyTimes Lkk", "wholeTimes kkk", "polyDivide Lkk?",
    "polyGcd Lkk", "polyInverse Lk", "type ssssss", "noText", "hand", "text Lkc", "textIn Lkb", "carry Lkb",
    "read Lkb", "readNumber Lk", "decode Lk", "house c", "knock", "isSound", "digest"
  };

  /** Words would soon be empty, or all the same, if nothing were put into them ever again. */
  private static final String[] ALSO = {
    "put Lkww", "put Lkww", "put Lkww", "put Lkww", "nextSet Lk", "rotate Lkp", "type ssssss"
  };
  private static final String[] OF_TEXTS = {
    "type ssssss", "type ssssss", "type ssssss", "carry Lkb", "read Lkb", "readNumber Lk", "decode Lk", "hand"
  };
  private static final String[] OF_NUMBERS = {
    "plus Lkk?", "times Lkk?", "divide Lkk?", "exact Lkk", "inverse Lk", "by Lkd", "polyTimes Lkk", "polyDivide Lkk?",
    "polyGcd Lkk", "polyInverse Lk", "put Lkww", "put Lkww", "complement Lk", "isSound"
  };

  private static final int[] EDGES = {
    0, 0, 1, 2, 3, 7, 13, -1, -1, -2, -3, Integer.MIN_VALUE, Integer.MIN_VALUE + 1, Integer.MAX_VALUE,
    Integer.MAX_VALUE - 1, 0x55555555, 0xaaaaaaaa, 0x33333333, 0xffff, 0xffff0000, 0x01010101, 64, 32
  };

  /** The methods that can tell REFUSED, of numbers and POLYNOMIALS, and of texts. */
  private static final List<String> REFUSING = List.of(
      "nextSet", "divide", "inverse", "exact", "polyDivide", "polyInverse", "read", "readNumber", "decode");

  /** What was answered in all runs: the exceptions that a method threw, REFUSED, and whether there were others. */
  private static final Set<String> SEEN = new TreeSet<>();

  private static long seed = 7810;

  private static int below(int bound) {
    seed = seed * 6364136223846793005L + 1442695040888963407L;
    return (int) Long.remainderUnsigned(seed >>> 20, bound);
  }

  private static String oneOf(String[] methods) {
    return methods[below(methods.length)];
  }

  private static String chosen(Mood mood, int call) {
    if (mood == Mood.LOOKING && call % 2 == 1) {
      // It looks at the whole after each call, so that a change in the wrong place shows at once.
      return "digest";
    }
    if (mood == Mood.READING && below(3) > 0) {
      return oneOf(OF_TEXTS);
    }
    if (mood == Mood.COUNTING && below(3) > 0) {
      return oneOf(OF_NUMBERS);
    }
    return below(8) == 0 ? oneOf(ALSO) : oneOf(METHODS);
  }

  private static int anyNumber() {
    switch (below(3)) {
      case 0: return EDGES[below(EDGES.length)];
      case 1: return below(200) - 100;
      default: return below(1 << 16) << 16 | below(1 << 16);
    }
  }

  private static Object argument(char kind) {
    boolean isWrong = below(60) == 0;
    switch (kind) {
      case 'L':
      case '?': return below(2) == 0;
      case 'k': return isWrong ? wrongOf(0, 3) : below(4);
      case 'p': return isWrong ? wrongOf(0, 64) : below(3) == 0 ? below(65) : below(33);
      case 'n': return isWrong ? anyNumber() : below(34) - 1;
      case 'c': return isWrong ? wrongOf(0, 9) : below(3) == 0 ? below(10) : below(5);
      case 'y': return isWrong ? wrongOf(0, 63) : below(3) == 0 ? below(64) : below(33);
      case 'd': return isWrong ? anyNumber() : new int[] {3, 5, 6, 9, 10, below(12)}[below(6)];
      case 'b': return isWrong ? wrongOf(2, 36) : below(3) == 0 ? 10 : 2 + below(35);
      case 's': return isWrong ? wrongOf(-1, 38) : sign();
      default: return anyNumber();
    }
  }

  private static int sign() {
    switch (below(12)) {
      case 0: return below(40) - 1;
      case 1: return 33 + below(6);
      case 2: return 36 + below(2);
      case 3: return 0;
      case 4:
      case 5:
      case 6:
      case 7: return -1;
      default: return below(10);
    }
  }

  private static int wrongOf(int least, int greatest) {
    return new int[] {least - 1, greatest + 1, Integer.MIN_VALUE, Integer.MAX_VALUE}[below(4)];
  }

  private static Object[] argumentsOf(String[] method) {
    Object[] arguments = new Object[method.length == 1 ? 0 : method[1].length()];
    for (int i = 0; i < arguments.length; i++) {
      arguments[i] = argument(method[1].charAt(i));
    }
    return arguments;
  }

  public static void main(String[] args) {
    int wrong = 0;
    int runs = 0;
    for (Mood mood : Mood.values()) {
      for (int run = 0; run < 2 * METHODS.length && wrong < SHOWN; run++) {
        wrong += wrongIn(mood, METHODS[run % METHODS.length]);
        runs++;
      }
    }
    wrong += notSeen();
    System.out.println(runs * CALLS + " answers, " + wrong + " of them wrong");
    System.exit(wrong == 0 ? 0 : 1);
  }

  /** How many answers are wrong in a run that ends with a call of the method; the run ends with the first one. */
  private static int wrongIn(Mood mood, String last) {
    Both both = new Both();
    for (int call = 1; call <= CALLS; call++) {
      String[] method = (call == CALLS ? last : chosen(mood, call)).split(" ");
      String answered = both.call(method[0], argumentsOf(method));
      see(method[0], both.answer());
      if (!answered.isEmpty()) {
        System.out.println(mood + ", ending with " + last + ", call " + call + ": " + answered);
        return 1;
      }
    }
    return 0;
  }

  private static void see(String method, Object answer) {
    boolean isTold = answer.toString().startsWith("throws ") || answer.equals(-9) && REFUSING.contains(method);
    SEEN.add(method + " " + (isTold ? answer : "answers"));
  }

  /** How many of the answers that each method has never came up: runs that do not show them would prove little. */
  private static int notSeen() {
    Set<String> missing = new TreeSet<>();
    for (String line : METHODS) {
      String method = line.split(" ")[0];
      missing.add(method + " answers");
      for (Class<?> exception : Both.methodOf(method).getExceptionTypes()) {
        missing.add(method + " throws " + exception.getSimpleName());
      }
      if (REFUSING.contains(method)) {
        missing.add(method + " -9");
      }
    }
    missing.removeAll(SEEN);
    missing.forEach(answer -> System.out.println("never seen: " + answer));
    return missing.size();
  }
}
