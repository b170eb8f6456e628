import java.util.Objects;

/** Calls and the answers that are due; what is wrong is printed and counted. */
final class Check {
  static final Class<IndexOutOfBoundsException> INDEX = IndexOutOfBoundsException.class;
  static final Class<IllegalArgumentException> ARGUMENT = IllegalArgumentException.class;
  static final Class<IllegalStateException> STATE = IllegalStateException.class;

  interface Call {
    Object answer();
  }

  private int wrong;
  private int calls;

  void due(String call, Object got, Object want) {
    calls++;
    if (!Objects.equals(got, want)) {
      wrong++;
      System.out.println(call + " answered " + got + ", due is " + want);
    }
  }

  /** The call throws an exception of just this class, and changes nothing. */
  void fails(String what, Bitwords x, Class<? extends RuntimeException> want, Call call) {
    String before = state(x);
    due(what, outcome(call), "throws " + want.getSimpleName());
    due(what + ", and what stands then", state(x), before);
  }

  /** The call tells REFUSED, which is counted, and changes nothing else. */
  void refuses(String what, Bitwords x, Call call) {
    String before = words(x);
    int refusals = x.house(0);
    due(what, outcome(call), -9);
    due(what + ", and what stands then", words(x), before);
    due(what + ", and how often REFUSED was told then", x.house(0), refusals + 1);
  }

  static Object outcome(Call call) {
    try {
      return call.answer();
    } catch (RuntimeException e) {
      return "throws " + e.getClass().getSimpleName();
    }
  }

  static String state(Bitwords x) {
    return words(x) + " refused " + x.house(0);
  }

  private static String words(Bitwords x) {
    StringBuilder all = new StringBuilder();
    for (int k = 0; k < 4; k++) {
      all.append(x.text(true, k, 2)).append(' ').append(x.text(false, k, 2)).append(' ');
    }
    return all.append('"').append(x.hand()).append('"').append(" knocked ").append(x.house(1)).toString();
  }

  /** Puts a word of 64 digits. */
  static Bitwords putLong(Bitwords x, int k, long w) {
    x.put(true, k, (int) (w >>> 32), (int) w);
    return x;
  }

  static Bitwords putShort(Bitwords x, int k, int w) {
    x.put(false, k, 0, w);
    return x;
  }

  static Bitwords ofLongs(long... w) {
    Bitwords x = new Bitwords();
    for (int k = 0; k < w.length; k++) {
      putLong(x, k, w[k]);
    }
    return x;
  }

  static Bitwords ofShorts(int... w) {
    Bitwords x = new Bitwords();
    for (int k = 0; k < w.length; k++) {
      putShort(x, k, w[k]);
    }
    return x;
  }

  static String hex(Bitwords x, boolean isLong, int k) {
    return x.text(isLong, k, 2);
  }

  /** Types a text, sign by sign. */
  static Bitwords type(Bitwords x, String text) {
    x.noText();
    for (int i = 0; i < text.length(); i++) {
      x.type("0123456789abcdefghijklmnopqrstuvwxyz-+#".indexOf(text.charAt(i)), -1, -1, -1, -1, -1);
    }
    return x;
  }

  int calls() {
    return calls;
  }

  void end() {
    System.out.println(calls + " answers, " + wrong + " of them wrong");
    System.exit(wrong == 0 && calls > 0 ? 0 : 1);
  }
}
