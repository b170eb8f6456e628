import java.math.BigInteger;
import java.util.Arrays;

/**
 * The document once more, word for word and as slowly as it likes: digits in rows of booleans, numbers without
 * a bound, nothing from the class that it is held against.
 */
final class Model {
  private static final int NONE = -1;
  private static final int REFUSED = -9;
  private static final String SIGNS = "0123456789abcdefghijklmnopqrstuvwxyz-+#";

  private final boolean[][] longs = new boolean[4][64];
  private final boolean[][] shorts = new boolean[4][32];
  private String hand = "";
  private int refused;
  private int knocks;

  // ---- common

  /** All that stands, as Check.state tells it of an object. */
  String state() {
    StringBuilder all = new StringBuilder();
    for (int k = 0; k < 4; k++) {
      all.append(number(longs[k]).toString(16)).append(' ').append(number(shorts[k]).toString(16)).append(' ');
    }
    return all + "\"" + hand + "\" knocked " + knocks + " refused " + refused;
  }

  private boolean[] word(boolean isLong, int k) {
    if (k < 0 || k > 3) {
      throw new IndexOutOfBoundsException();
    }
    return isLong ? longs[k] : shorts[k];
  }

  private static void choose(boolean isFine) {
    if (!isFine) {
      throw new IllegalArgumentException();
    }
  }

  private static void place(boolean isFine) {
    if (!isFine) {
      throw new IndexOutOfBoundsException();
    }
  }

  private int refuse() {
    refused++;
    return REFUSED;
  }

  private static BigInteger number(boolean[] w) {
    BigInteger sum = BigInteger.ZERO;
    for (int p = 0; p < w.length; p++) {
      if (w[p]) {
        sum = sum.add(BigInteger.TWO.pow(p));
      }
    }
    return sum;
  }

  private static BigInteger signed(boolean[] w) {
    return w[w.length - 1] ? number(w).subtract(BigInteger.TWO.pow(w.length)) : number(w);
  }

  private static void become(boolean[] w, BigInteger n) {
    BigInteger rest = n.mod(BigInteger.TWO.pow(w.length));
    for (int p = 0; p < w.length; p++) {
      w[p] = rest.testBit(p);
    }
  }

  private static void become(boolean[] w, boolean[] other) {
    for (int p = 0; p < w.length; p++) {
      w[p] = other[p];
    }
  }

  private static int ones(boolean[] w) {
    int ones = 0;
    for (boolean b : w) {
      ones += b ? 1 : 0;
    }
    return ones;
  }

  private static int least(boolean[] w) {
    for (int p = 0; p < w.length; p++) {
      if (w[p]) {
        return p;
      }
    }
    return NONE;
  }

  private static int degree(boolean[] w) {
    for (int p = w.length - 1; p >= 0; p--) {
      if (w[p]) {
        return p;
      }
    }
    return NONE;
  }

  private static int low(boolean[] w, int start) {
    int sum = 0;
    for (int p = 0; p < 32; p++) {
      sum |= w[start + p] ? 1 << p : 0;
    }
    return sum;
  }

  private static boolean[] rotated(boolean[] w, int by) {
    boolean[] to = new boolean[w.length];
    for (int p = 0; p < w.length; p++) {
      to[(int) Math.floorMod((long) p + by, (long) w.length)] = w[p];
    }
    return to;
  }

  private static boolean[] shuffled(boolean[] w) {
    boolean[] to = new boolean[w.length];
    int half = w.length / 2;
    for (int p = 0; p < w.length; p++) {
      to[p < half ? 2 * p : 2 * (p - half) + 1] = w[p];
    }
    return to;
  }

  private static boolean[] turned(boolean[] w) {
    boolean[] to = new boolean[w.length];
    for (int p = 0; p < w.length; p++) {
      to[w.length - 1 - p] = w[p];
    }
    return to;
  }

  private static boolean[] grayed(boolean[] w) {
    boolean[] to = new boolean[w.length];
    for (int p = 0; p < w.length; p++) {
      to[p] = w[p] ^ (p + 1 < w.length && w[p + 1]);
    }
    return to;
  }

  private static boolean[] ungrayed(boolean[] w) {
    boolean[] to = new boolean[w.length];
    for (int p = w.length - 1; p >= 0; p--) {
      to[p] = w[p] ^ (p + 1 < w.length && to[p + 1]);
    }
    return to;
  }

  // ---- words

  int put(boolean isLong, int k, int high, int low) {
    boolean[] w = word(isLong, k);
    for (int p = 0; p < w.length; p++) {
      w[p] = ((p < 32 ? low >> p : high >> (p - 32)) & 1) == 1;
    }
    return ones(w);
  }

  int copy(boolean isLong, int k, int from) {
    boolean[] w = word(isLong, k);
    become(w, word(isLong, from));
    return ones(w);
  }

  int widen(int k, int from, boolean isSigned) {
    boolean[] w = word(true, k);
    boolean[] f = word(false, from);
    for (int p = 0; p < 64; p++) {
      w[p] = p < 32 ? f[p] : isSigned && f[31];
    }
    return ones(w);
  }

  int narrow(int k, int from, boolean isHigh) {
    boolean[] w = word(false, k);
    boolean[] f = word(true, from);
    for (int p = 0; p < 32; p++) {
      w[p] = f[isHigh ? p + 32 : p];
    }
    return ones(w);
  }

  int digit(boolean isLong, int k, int place) {
    boolean[] w = word(isLong, k);
    place(place >= 0 && place < w.length);
    return w[place] ? 1 : 0;
  }

  int set(boolean isLong, int k, int place, boolean isOne) {
    int was = digit(isLong, k, place);
    word(isLong, k)[place] = isOne;
    return was;
  }

  int ofWord(boolean isLong, int k, int what) {
    boolean[] w = word(isLong, k);
    choose(what >= 0 && what <= 9);
    switch (what) {
      case 0: return ones(w);
      case 1: return w.length - 1 - degree(w);
      case 2: return least(w) == NONE ? w.length : least(w);
      case 3: return degree(w);
      case 4: return least(w);
      case 5: return signed(w).signum();
      case 6: return low(w, 0);
      case 7: return isLong ? low(w, 32) : 0;
      case 8: return isLong ? low(w, 0) ^ low(w, 32) : low(w, 0);
      default:
        int by = 1;
        while (!Arrays.equals(w, rotated(w, by))) {
          by++;
        }
        return by;
    }
  }

  // ---- sets

  int mix(boolean isLong, int k, int from, int how) {
    boolean[] w = word(isLong, k);
    boolean[] f = word(isLong, from);
    choose(how >= 0 && how <= 3);
    for (int p = 0; p < w.length; p++) {
      int both = (w[p] ? 1 : 0) + (f[p] ? 1 : 0);
      w[p] = how == 0 ? both == 2 : how == 1 ? both > 0 : how == 2 ? both == 1 : w[p] && !f[p];
    }
    return ones(w);
  }

  int complement(boolean isLong, int k) {
    boolean[] w = word(isLong, k);
    for (int p = 0; p < w.length; p++) {
      w[p] = !w[p];
    }
    return ones(w);
  }

  int rank(boolean isLong, int k, int place) {
    boolean[] w = word(isLong, k);
    place(place >= 0 && place <= w.length);
    return ones(Arrays.copyOf(w, place));
  }

  int select(boolean isLong, int k, int n) {
    boolean[] w = word(isLong, k);
    int seen = 0;
    for (int p = 0; p < w.length; p++) {
      if (w[p] && seen++ == n) {
        return p;
      }
    }
    return NONE;
  }

  int distance(boolean isLong, int a, int b) {
    boolean[] v = word(isLong, a);
    boolean[] w = word(isLong, b);
    int unlike = 0;
    for (int p = 0; p < w.length; p++) {
      unlike += v[p] != w[p] ? 1 : 0;
    }
    return unlike;
  }

  boolean areSo(boolean isLong, int a, int b, int what) {
    boolean[] v = word(isLong, a);
    boolean[] w = word(isLong, b);
    choose(what >= 0 && what <= 4);
    switch (what) {
      case 0: return Arrays.equals(v, w);
      case 1: return number(v).and(number(w)).signum() == 0;
      case 2: return number(v).or(number(w)).equals(number(w));
      case 3: return Arrays.equals(turned(v), w);
      default:
        boolean[] s = w;
        for (int i = 0; i < 60; i++) {
          if (Arrays.equals(s, v)) {
            return true;
          }
          s = shuffled(s);
        }
        return false;
    }
  }

  int only(boolean isLong, int k, boolean isHighest) {
    boolean[] w = word(isLong, k);
    int p = isHighest ? degree(w) : least(w);
    become(w, p == NONE ? BigInteger.ZERO : BigInteger.TWO.pow(p));
    return ones(w);
  }

  /** The greatest PLACE p with a ONE somewhere below that can come up: the rest goes down as far as it can. */
  int nextSet(boolean isLong, int k) {
    boolean[] w = word(isLong, k);
    for (int p = 1; p < w.length; p++) {
      if (!w[p] && w[p - 1]) {
        int below = ones(Arrays.copyOf(w, p)) - 1;
        w[p] = true;
        for (int q = 0; q < p; q++) {
          w[q] = q < below;
        }
        return least(w);
      }
    }
    return refuse();
  }

  // ---- places

  int reverse(boolean isLong, int k) {
    boolean[] w = word(isLong, k);
    become(w, turned(w));
    return least(w);
  }

  int reverseBytes(boolean isLong, int k) {
    boolean[] w = word(isLong, k);
    boolean[] to = new boolean[w.length];
    for (int p = 0; p < w.length; p++) {
      to[(w.length / 8 - 1 - p / 8) * 8 + p % 8] = w[p];
    }
    become(w, to);
    return least(w);
  }

  int rotate(boolean isLong, int k, int by) {
    boolean[] w = word(isLong, k);
    become(w, rotated(w, by));
    return least(w);
  }

  int turnsTo(boolean isLong, int a, int b) {
    boolean[] v = word(isLong, a);
    boolean[] w = word(isLong, b);
    for (int by = 0; by < w.length; by++) {
      if (Arrays.equals(rotated(v, by), w)) {
        return by;
      }
    }
    return NONE;
  }

  int shift(boolean isLong, int k, int by, int how) {
    boolean[] w = word(isLong, k);
    choose(by >= 0 && by < w.length && how >= 0 && how <= 2);
    boolean[] to = new boolean[w.length];
    for (int p = 0; p < w.length; p++) {
      int from = how == 0 ? p - by : p + by;
      to[p] = from < 0 ? false : from < w.length ? w[from] : how == 2 && w[w.length - 1];
    }
    become(w, to);
    return ones(w);
  }

  int swap(boolean isLong, int k, int width) {
    boolean[] w = word(isLong, k);
    choose(width >= 0 && width <= (isLong ? 5 : 4));
    boolean[] to = new boolean[w.length];
    for (int p = 0; p < w.length; p++) {
      to[p ^ (1 << width)] = w[p];
    }
    become(w, to);
    return least(w);
  }

  int shuffle(boolean isLong, int k, boolean isBack) {
    boolean[] w = word(isLong, k);
    boolean[] to = w.clone();
    if (isBack) {
      int half = w.length / 2;
      for (int p = 0; p < w.length; p++) {
        to[p] = w[p < half ? 2 * p : 2 * (p - half) + 1];
      }
    } else {
      to = shuffled(w);
    }
    become(w, to);
    return least(w);
  }

  int weave(int k, int even, int odd) {
    boolean[] w = word(true, k);
    boolean[] e = word(false, even);
    boolean[] o = word(false, odd);
    for (int p = 0; p < 32; p++) {
      w[2 * p] = e[p];
      w[2 * p + 1] = o[p];
    }
    return ones(w);
  }

  int unweave(int k, int from, boolean isOdd) {
    boolean[] w = word(false, k);
    boolean[] f = word(true, from);
    for (int p = 0; p < 32; p++) {
      w[p] = f[2 * p + (isOdd ? 1 : 0)];
    }
    return ones(w);
  }

  int gray(boolean isLong, int k, boolean isBack) {
    boolean[] w = word(isLong, k);
    become(w, isBack ? ungrayed(w) : grayed(w));
    return ones(w);
  }

  int step(boolean isLong, int k) {
    boolean[] w = word(isLong, k);
    boolean[] next = w.clone();
    become(next, number(ungrayed(w)).add(BigInteger.ONE));
    next = grayed(next);
    int changed = number(w).xor(number(next)).bitLength() - 1;
    become(w, next);
    return changed;
  }

  // ---- numbers

  int plus(boolean isLong, int k, int from, boolean isLess) {
    boolean[] w = word(isLong, k);
    BigInteger f = number(word(isLong, from));
    become(w, isLess ? number(w).subtract(f) : number(w).add(f));
    return ones(w);
  }

  int negate(boolean isLong, int k) {
    boolean[] w = word(isLong, k);
    become(w, number(w).negate());
    return ones(w);
  }

  int times(boolean isLong, int k, int from, boolean isHigh) {
    boolean[] w = word(isLong, k);
    BigInteger product = number(w).multiply(number(word(isLong, from)));
    become(w, isHigh ? product.shiftRight(w.length) : product);
    return ones(w);
  }

  int divide(boolean isLong, int k, int from, boolean isRest) {
    boolean[] w = word(isLong, k);
    BigInteger f = number(word(isLong, from));
    if (f.signum() == 0) {
      return refuse();
    }
    become(w, isRest ? number(w).mod(f) : number(w).divide(f));
    return ones(w);
  }

  int by(boolean isLong, int k, int by) {
    boolean[] w = word(isLong, k);
    choose(by == 3 || by == 5 || by == 6 || by == 9 || by == 10);
    BigInteger[] both = number(w).divideAndRemainder(BigInteger.valueOf(by));
    become(w, both[0]);
    return both[1].intValue();
  }

  int inverse(boolean isLong, int k) {
    boolean[] w = word(isLong, k);
    if (!w[0]) {
      return refuse();
    }
    become(w, number(w).modInverse(BigInteger.TWO.pow(w.length)));
    return ones(w);
  }

  int exact(boolean isLong, int k, int from) {
    boolean[] w = word(isLong, k);
    BigInteger f = number(word(isLong, from));
    if (f.signum() == 0 || number(w).mod(f).signum() != 0) {
      return refuse();
    }
    become(w, number(w).divide(f));
    return ones(w);
  }

  int extreme(boolean isLong, int k, int from, boolean isGreater) {
    boolean[] w = word(isLong, k);
    boolean[] f = word(isLong, from);
    BigInteger to = isGreater ? signed(w).max(signed(f)) : signed(w).min(signed(f));
    boolean changes = !to.equals(signed(w));
    become(w, to);
    return changes ? 1 : 0;
  }

  int compare(boolean isLong, int a, int b, boolean isSigned) {
    boolean[] v = word(isLong, a);
    boolean[] w = word(isLong, b);
    return isSigned ? signed(v).compareTo(signed(w)) : number(v).compareTo(number(w));
  }

  // ---- polynomials

  private static BigInteger product(BigInteger a, BigInteger b) {
    BigInteger product = BigInteger.ZERO;
    for (int p = 0; p < b.bitLength(); p++) {
      product = b.testBit(p) ? product.xor(a.shiftLeft(p)) : product;
    }
    return product;
  }

  private static BigInteger[] divided(BigInteger a, BigInteger b) {
    BigInteger quotient = BigInteger.ZERO;
    BigInteger rest = a;
    while (rest.bitLength() >= b.bitLength()) {
      int by = rest.bitLength() - b.bitLength();
      quotient = quotient.setBit(by);
      rest = rest.xor(b.shiftLeft(by));
    }
    return new BigInteger[] {quotient, rest};
  }

  int polyTimes(boolean isLong, int k, int from) {
    boolean[] w = word(isLong, k);
    become(w, product(number(w), number(word(isLong, from))));
    return ones(w);
  }

  int wholeTimes(int k, int a, int b) {
    boolean[] w = word(true, k);
    become(w, product(number(word(false, a)), number(word(false, b))));
    return degree(w);
  }

  int polyDivide(boolean isLong, int k, int from, boolean isRest) {
    boolean[] w = word(isLong, k);
    BigInteger f = number(word(isLong, from));
    if (f.signum() == 0) {
      return refuse();
    }
    become(w, divided(number(w), f)[isRest ? 1 : 0]);
    return degree(w);
  }

  int polyGcd(boolean isLong, int k, int from) {
    boolean[] w = word(isLong, k);
    BigInteger a = number(w);
    BigInteger b = number(word(isLong, from));
    while (b.signum() != 0) {
      BigInteger rest = divided(a, b)[1];
      a = b;
      b = rest;
    }
    become(w, a);
    return degree(w);
  }

  int polyInverse(boolean isLong, int k) {
    boolean[] w = word(isLong, k);
    if (!w[0]) {
      return refuse();
    }
    boolean[] to = new boolean[w.length];
    for (int p = 0; p < w.length; p++) {
      boolean sum = p == 0;
      for (int q = 0; q < p; q++) {
        sum ^= to[q] && w[p - q];
      }
      to[p] = sum;
    }
    become(w, to);
    return degree(w);
  }

  // ---- texts

  int type(int a, int b, int c, int d, int e, int f) {
    StringBuilder more = new StringBuilder();
    for (int sign : new int[] {a, b, c, d, e, f}) {
      choose(sign >= NONE && sign <= 38);
      more.append(sign == NONE ? "" : SIGNS.substring(sign, sign + 1));
    }
    if (hand.length() + more.length() > 80) {
      throw new IllegalStateException();
    }
    hand += more;
    return hand.length();
  }

  int noText() {
    int length = hand.length();
    hand = "";
    return length;
  }

  String hand() {
    return hand;
  }

  String text(boolean isLong, int k, int what) {
    boolean[] w = word(isLong, k);
    choose(what >= 0 && what <= 4);
    return what == 4 ? signed(w).toString(10) : number(w).toString(new int[] {2, 8, 16, 10}[what]);
  }

  String textIn(boolean isLong, int k, int base) {
    boolean[] w = word(isLong, k);
    choose(base >= 2 && base <= 36);
    return signed(w).toString(base);
  }

  int carry(boolean isLong, int k, int base) {
    hand = textIn(isLong, k, base);
    return hand.length();
  }

  private static boolean areDigits(String text, int base) {
    return text.chars().allMatch(c -> SIGNS.substring(0, base).indexOf(c) >= 0) && !text.isEmpty();
  }

  private int keepRead(boolean[] w, String digits, int base, BigInteger least, BigInteger greatest) {
    if (!areDigits(digits, base)) {
      return refuse();
    }
    BigInteger n = new BigInteger(digits, base);
    n = hand.startsWith("-") ? n.negate() : n;
    if (n.compareTo(least) < 0 || n.compareTo(greatest) > 0) {
      return refuse();
    }
    become(w, n);
    return ones(w);
  }

  private int keepSigned(boolean[] w, String digits, int base) {
    BigInteger half = BigInteger.TWO.pow(w.length - 1);
    return keepRead(w, digits, base, half.negate(), half.subtract(BigInteger.ONE));
  }

  private String behindSign() {
    return hand.startsWith("-") || hand.startsWith("+") ? hand.substring(1) : hand;
  }

  int read(boolean isLong, int k, int base) {
    boolean[] w = word(isLong, k);
    choose(base >= 2 && base <= 36);
    return keepSigned(w, behindSign(), base);
  }

  int readNumber(boolean isLong, int k) {
    boolean[] w = word(isLong, k);
    if (hand.startsWith("-")) {
      return refuse();
    }
    BigInteger all = BigInteger.TWO.pow(w.length);
    return keepRead(w, behindSign(), 10, BigInteger.ZERO, all.subtract(BigInteger.ONE));
  }

  int decode(boolean isLong, int k) {
    boolean[] w = word(isLong, k);
    String text = behindSign();
    if (text.startsWith("0x")) {
      return keepSigned(w, text.substring(2), 16);
    }
    if (text.startsWith("#")) {
      return keepSigned(w, text.substring(1), 16);
    }
    if (text.startsWith("0") && text.length() > 1) {
      return keepSigned(w, text.substring(1), 8);
    }
    return keepSigned(w, text, 10);
  }

  // ---- the whole

  int house(int what) {
    choose(what >= 0 && what <= 3);
    int all = 0;
    for (int k = 0; k < 4; k++) {
      all += ones(longs[k]) + ones(shorts[k]);
    }
    return new int[] {refused, knocks, hand.length(), all}[what];
  }

  int knock() {
    return ++knocks;
  }

  /** Each of the things that it names is so of all words: the document leaves no word of which it is not. */
  boolean isSound() {
    return true;
  }

  long digest() {
    long d = 7810;
    for (int what = 0; what < 4; what++) {
      d = d * 31 + house(what);
    }
    for (char sign : hand.toCharArray()) {
      d = d * 31 + sign;
    }
    for (int kind = 0; kind < 2; kind++) {
      for (int k = 0; k < 4; k++) {
        for (int what = 0; what < 10; what++) {
          d = d * 31 + ofWord(kind == 0, k, what);
        }
      }
    }
    return d * 31 + 1;
  }
}
