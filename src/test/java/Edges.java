import java.util.ArrayList;
import java.util.Arrays;
import java.util.List;
import java.util.Map;
import java.util.TreeMap;

/**
 * Tests of single sentences. Each names its promise and quotes what it tests, so that what is tested can be looked up
 * in the document, and what is not can be missed.
 */
final class Edges {
  static final int DESCRIPTION = 0;
  static final int NONE = -1;
  static final int REFUSED = -9;
  static final int MIN = Integer.MIN_VALUE;
  static final int MAX = Integer.MAX_VALUE;
  static final boolean[] KINDS = {true, false};

  /** A line of a promise with one of these tells of a boundary, or of what is refused: a test must quote that. */
  private static final String[] MARKS = {"Throws", "REFUSED", "NONE", "EMPTY", "SIZE"};

  /** A call with the number of a word, and one with any other number. */
  interface OfWord {
    Object on(Bitwords x, boolean isLong, int k);
  }

  interface OfNumber {
    Object on(Bitwords x, int n);
  }

  private final Check check = new Check();
  private final Document document = Document.ofProperty();
  private final Map<Integer, List<String>> quotes = new TreeMap<>();
  private String now = "";

  /** Runs the test of a sentence; promise 0 is the description. */
  void says(int promise, String sentence, Runnable test) {
    now = (promise == DESCRIPTION ? "description" : promise) + ": '" + sentence + "': ";
    quotes.computeIfAbsent(promise, p -> new ArrayList<>()).add(sentence);
    check.due(now + "stands there", document.says(promise, sentence), true);
    int before = check.calls();
    test.run();
    check.due(now + "is tested", check.calls() > before, true);
  }

  void due(String call, Object got, Object want) {
    check.due(now + call, got, want);
  }

  /** What a call answered, and what stands in word 0 of the kind then. */
  void makes(String call, Bitwords x, boolean isLong, Object got, Object answer, long then) {
    due(call + " of a " + nameOf(isLong), got, answer);
    due(call + " of a " + nameOf(isLong) + ", its digits then", Check.hex(x, isLong, 0), Long.toHexString(then));
  }

  void refuses(String call, Bitwords x, Check.Call refused) {
    check.refuses(now + call, x, refused);
  }

  void fails(String call, Bitwords x, Class<? extends RuntimeException> want, Check.Call failing) {
    check.fails(now + call, x, want, failing);
  }

  void answers(String call, Check.Call answering) {
    String outcome = String.valueOf(Check.outcome(answering));
    due(call + " answers " + outcome + ", which is no exception", outcome.startsWith("throws "), false);
  }

  /** Words are numbered from 0 to 3: those two answer, and beyond them the call throws and changes nothing. */
  void wordsEnd(OfWord call) {
    for (boolean isLong : KINDS) {
      for (int k : new int[] {0, 3}) {
        answers(nameOf(isLong) + " " + k, () -> call.on(busy(), isLong, k));
      }
      for (int k : new int[] {-1, 4, MIN, MAX}) {
        Bitwords x = busy();
        fails(nameOf(isLong) + " " + k, x, Check.INDEX, () -> call.on(x, isLong, k));
      }
    }
  }

  /** All numbers from the least to the greatest answer; beyond them the call throws and changes nothing. */
  void numbersEnd(int least, int greatest, Class<? extends RuntimeException> want, OfNumber call) {
    for (int n = least; n <= greatest; n++) {
      int inside = n;
      answers("number " + n, () -> call.on(busy(), inside));
    }
    for (int n : new int[] {least - 1, greatest + 1, MIN, MAX}) {
      Bitwords x = busy();
      fails("number " + n, x, want, () -> call.on(x, n));
    }
  }

  /** An object in which each change would show: no two words alike, a text in hand, knocked and refused. */
  static Bitwords busy() {
    Bitwords x = Check.type(new Bitwords(), "-12");
    x.decode(false, 3);
    x.nextSet(true, 0);
    x.knock();
    put(x, true, 0x8000000000000005L, 7, -1, 0x123456789abcdefL);
    put(x, false, 0x80000003L, 5, -1, 0x1234567);
    return x;
  }

  /** A new object with words 0, 1 and so on of a kind. */
  static Bitwords of(boolean isLong, long... words) {
    return put(new Bitwords(), isLong, words);
  }

  private static Bitwords put(Bitwords x, boolean isLong, long... words) {
    for (int k = 0; k < words.length; k++) {
      x.put(isLong, k, (int) (words[k] >>> 32), (int) words[k]);
    }
    return x;
  }

  static int sizeOf(boolean isLong) {
    return isLong ? 64 : 32;
  }

  static String nameOf(boolean isLong) {
    return isLong ? "LONG" : "SHORT";
  }

  /** The digits of a word of all ONES. */
  static long all(boolean isLong) {
    return isLong ? -1L : 0xffffffffL;
  }

  /** The digits of a word with the ONE at SIZE - 1 alone. */
  static long top(boolean isLong) {
    return 1L << (sizeOf(isLong) - 1);
  }

  static int onesOf(long digits) {
    return Long.bitCount(digits);
  }

  /** Ends the program: each promise from the first to the last must have its sentences quoted, to the last word. */
  void end(int first, int last) {
    for (int promise = first; promise <= last; promise++) {
      List<String> quoted = quotes.getOrDefault(promise, List.of());
      check.due("promise " + promise + " is quoted", quoted.isEmpty(), false);
      for (String line : document.linesOf(promise)) {
        for (String mark : MARKS) {
          boolean isQuoted = quoted.stream().anyMatch(quote -> quote.contains(mark) && line.contains(quote));
          check.due(promise + ": " + mark + " in '" + line + "' is quoted", isQuoted, line.contains(mark));
        }
      }
      for (String sentence : document.sentencesOf(promise)) {
        check.due(promise + ": what no test quotes of '" + sentence + "'", unquoted(sentence, quoted), "");
      }
    }
    check.end();
  }

  /** The letters and numbers of a sentence that stand in none of the quotes. */
  private static String unquoted(String sentence, List<String> quoted) {
    boolean[] isQuoted = new boolean[sentence.length()];
    for (String quote : quoted) {
      for (int at = sentence.indexOf(quote); at >= 0; at = sentence.indexOf(quote, at + 1)) {
        Arrays.fill(isQuoted, at, at + quote.length(), true);
      }
    }
    StringBuilder left = new StringBuilder();
    for (int i = 0; i < isQuoted.length; i++) {
      if (!isQuoted[i] && Character.isLetterOrDigit(sentence.charAt(i))) {
        left.append(sentence.charAt(i));
      }
    }
    return left.toString();
  }
}
