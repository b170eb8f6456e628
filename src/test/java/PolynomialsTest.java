/** Promises 37 to 41: polynomials. */
final class PolynomialsTest {
  private static final int MIN = Integer.MIN_VALUE;
  private static final int MAX = Integer.MAX_VALUE;
  private static final Check check = new Check();

  public static void main(String[] args) {
    polyTimes();
    wholeTimes();
    polyDivide();
    polyDivideMakesItAgain();
    polyDivideRefused();
    polyGcd();
    polyInverse();
    polyInverseRefused();
    wrongWords();
    check.end();
  }

  private static void polyTimes() {
    Bitwords x = Check.ofLongs(0x13, 0x7, -1, 1L << 63);
    check.due("37: (x^4 + x + 1) (x^2 + x + 1)", x.polyTimes(true, 0, 1), 5);
    check.due("37: its digits", Check.hex(x, true, 0), "79");
    check.due("37: the other one stays", Check.hex(x, true, 1), "7");
    check.due("37: all by themselves", x.polyTimes(true, 2, 2), 32);
    check.due("37: its digits", Check.hex(x, true, 2), "5555555555555555");
    check.due("37: what is above is gone", x.polyTimes(true, 3, 1), 1);
    check.due("37: its digits", Check.hex(x, true, 3), "8000000000000000");
    Check.putShort(x, 0, MIN + 1);
    Check.putShort(x, 1, 3);
    check.due("37: of shorts", x.polyTimes(false, 0, 1), 3);
    check.due("37: its digits", Check.hex(x, false, 0), "80000003");
    check.due("37: by an empty one", x.polyTimes(false, 0, 3), 0);
  }

  private static void wholeTimes() {
    Bitwords x = Check.ofShorts(-1, MIN, 3, 0);
    Check.putLong(x, 3, -1);
    check.due("38: all by themselves", x.wholeTimes(0, 0, 0), 62);
    check.due("38: its digits", Check.hex(x, true, 0), "5555555555555555");
    check.due("38: x^31 by itself", x.wholeTimes(1, 1, 1), 62);
    check.due("38: its digits", Check.hex(x, true, 1), "4000000000000000");
    check.due("38: x^31 by x + 1", x.wholeTimes(2, 1, 2), 32);
    check.due("38: its digits", Check.hex(x, true, 2), "180000000");
    check.due("38: by 0", x.wholeTimes(3, 0, 3), -1);
    check.due("38: its digits", Check.hex(x, true, 3), "0");
    check.due("38: the shorts stay", Check.hex(x, false, 0), "ffffffff");
  }

  private static void polyDivide() {
    dueDivided(true, 0x7d, 0x7, "12", "3");
    dueDivided(true, 0x79, 0x7, "13", "0");
    dueDivided(true, 0x3, 0x7, "0", "3");
    dueDivided(true, 0, 0x7, "0", "0");
    dueDivided(true, -1, 1, "ffffffffffffffff", "0");
    dueDivided(true, -1, -1, "1", "0");
    dueDivided(true, -1, 1L << 63, "1", "7fffffffffffffff");
    dueDivided(true, 0x8000000000000001L, 3, "7fffffffffffffff", "0");
    dueDivided(false, 0x7d, 0x7, "12", "3");
    dueDivided(false, MIN, 3, "7fffffff", "1");
    dueDivided(false, -1, MIN, "1", "7fffffff");
    dueDivided(false, 0x3, 0x7, "0", "3");
  }

  private static void dueDivided(boolean isLong, long w, long divisor, String quotient, String rest) {
    for (boolean isRest : new boolean[] {false, true}) {
      Bitwords x = Check.ofLongs(w, divisor);
      Check.putShort(x, 0, (int) w);
      Check.putShort(x, 1, (int) divisor);
      String due = isRest ? rest : quotient;
      int degree = 63 - Long.numberOfLeadingZeros(Long.parseUnsignedLong(due, 16));
      String call = "39: " + Long.toHexString(w) + " by " + Long.toHexString(divisor);
      check.due(call, x.polyDivide(isLong, 0, 1, isRest), degree);
      check.due(call + ", its digits", Check.hex(x, isLong, 0), due);
      check.due(call + ", that of the other kind stays", x.ofWord(!isLong, 0, 6), (int) w);
    }
  }

  private static void polyDivideMakesItAgain() {
    for (long divisor = 2; divisor > 0 && divisor < 1L << 60; divisor = divisor * 5 + 3) {
      Bitwords x = Check.ofLongs(0xfedcba9876543210L, divisor, 0xfedcba9876543210L, 0xfedcba9876543210L);
      x.polyDivide(true, 0, 1, false);
      int degree = x.polyDivide(true, 2, 1, true);
      check.due("39: the rest has a lesser degree", degree < x.ofWord(true, 1, 3), true);
      x.polyTimes(true, 0, 1);
      x.mix(true, 0, 2, 2);
      check.due("39: quotient and rest make it again", x.areSo(true, 0, 3, 0), true);
    }
  }

  private static void polyDivideRefused() {
    for (boolean isLong : new boolean[] {true, false}) {
      for (boolean isRest : new boolean[] {true, false}) {
        Bitwords x = Check.ofLongs(5, 0);
        Check.putShort(x, 0, 5);
        check.refuses("39: by an empty one", x, () -> x.polyDivide(isLong, 0, 1, isRest));
        check.refuses("39: an empty one by itself", x, () -> x.polyDivide(isLong, 1, 1, isRest));
      }
    }
  }

  private static void polyGcd() {
    dueGcd(0x79, 0x7, "7");
    dueGcd(0x7, 0x79, "7");
    dueGcd(0x79, 0x13, "13");
    dueGcd(0x13, 0x7, "1");
    dueGcd(0x8000000000000001L, 3, "3");
    dueGcd(0, 0x13, "13");
    dueGcd(0x13, 0, "13");
    dueGcd(0, 0, "0");
    dueGcd(0, -1, "ffffffffffffffff");
    dueGcd(-1, -1, "ffffffffffffffff");
    dueGcd(0x6, 0x5, "3");
    Bitwords x = Check.ofShorts(0x79, 0x13, 0, MIN);
    check.due("40: of shorts", x.polyGcd(false, 0, 1), 4);
    check.due("40: its digits", Check.hex(x, false, 0), "13");
    check.due("40: the other one stays", Check.hex(x, false, 1), "13");
    check.due("40: of an empty short", x.polyGcd(false, 2, 3), 31);
    check.due("40: its digits", Check.hex(x, false, 2), "80000000");
    check.due("40: with itself", x.polyGcd(false, 1, 1), 4);
  }

  private static void dueGcd(long a, long b, String digits) {
    Bitwords x = Check.ofLongs(a, b);
    int degree = 63 - Long.numberOfLeadingZeros(Long.parseUnsignedLong(digits, 16));
    String call = "40: of " + Long.toHexString(a) + " and " + Long.toHexString(b);
    check.due(call, x.polyGcd(true, 0, 1), degree);
    check.due(call + ", its digits", Check.hex(x, true, 0), digits);
    check.due(call + ", the other one stays", x.text(true, 1, 2), Long.toHexString(b));
  }

  private static void polyInverse() {
    Bitwords x = Check.ofLongs(3, 1, 7);
    check.due("41: of x + 1", x.polyInverse(true, 0), 63);
    check.due("41: its digits", Check.hex(x, true, 0), "ffffffffffffffff");
    check.due("41: of 1", x.polyInverse(true, 1), 0);
    check.due("41: its digits", Check.hex(x, true, 1), "1");
    check.due("41: of x^2 + x + 1", x.polyInverse(true, 2), 63);
    check.due("41: its digits", Check.hex(x, true, 2), "b6db6db6db6db6db");
    Check.putShort(x, 0, 3);
    Check.putShort(x, 1, 7);
    Check.putShort(x, 2, MIN + 1);
    check.due("41: of a short x + 1", x.polyInverse(false, 0), 31);
    check.due("41: its digits", Check.hex(x, false, 0), "ffffffff");
    check.due("41: of a short x^2 + x + 1", x.polyInverse(false, 1), 31);
    check.due("41: its digits", Check.hex(x, false, 1), "db6db6db");
    check.due("41: of a short x^31 + 1", x.polyInverse(false, 2), 31);
    check.due("41: its digits", Check.hex(x, false, 2), "80000001");
    for (long w = 1; w > 0 && w < 1L << 60; w = w * 7 + 4) {
      Bitwords y = Check.ofLongs(w | 1, w | 1);
      Check.putShort(y, 0, (int) w | 1);
      Check.putShort(y, 1, (int) w | 1);
      y.polyInverse(true, 0);
      y.polyInverse(false, 0);
      y.polyTimes(true, 0, 1);
      y.polyTimes(false, 0, 1);
      check.due("41: product of " + w + " and its inverse", Check.hex(y, true, 0), "1");
      check.due("41: of shorts", Check.hex(y, false, 0), "1");
    }
  }

  private static void polyInverseRefused() {
    Bitwords x = Check.ofLongs(6, 0, 1L << 63);
    Check.putShort(x, 0, -2);
    check.refuses("41: of x^2 + x", x, () -> x.polyInverse(true, 0));
    check.refuses("41: of an empty one", x, () -> x.polyInverse(true, 1));
    check.refuses("41: of x^63", x, () -> x.polyInverse(true, 2));
    check.refuses("41: of a short", x, () -> x.polyInverse(false, 0));
    check.refuses("41: of an empty short", x, () -> x.polyInverse(false, 1));
  }

  private static void wrongWords() {
    for (int k : new int[] {-1, 4, MIN, MAX}) {
      for (boolean isLong : new boolean[] {true, false}) {
        Bitwords x = Check.ofLongs(5, 6, 7, 0);
        Check.putShort(x, 1, 9);
        check.fails("37: polyTimes of " + k, x, Check.INDEX, () -> x.polyTimes(isLong, k, 0));
        check.fails("37: polyTimes by " + k, x, Check.INDEX, () -> x.polyTimes(isLong, 0, k));
        check.fails("39: polyDivide of " + k + " by an empty one", x, Check.INDEX, () -> x.polyDivide(isLong, k, 3, true));
        check.fails("39: polyDivide by " + k, x, Check.INDEX, () -> x.polyDivide(isLong, 0, k, true));
        check.fails("40: polyGcd of " + k, x, Check.INDEX, () -> x.polyGcd(isLong, k, 0));
        check.fails("40: polyGcd with " + k, x, Check.INDEX, () -> x.polyGcd(isLong, 0, k));
        check.fails("41: polyInverse of " + k, x, Check.INDEX, () -> x.polyInverse(isLong, k));
      }
      Bitwords x = Check.ofLongs(5, 6, 7, 8);
      Check.putShort(x, 1, 9);
      check.fails("38: wholeTimes of " + k, x, Check.INDEX, () -> x.wholeTimes(k, 1, 1));
      check.fails("38: wholeTimes of a " + k, x, Check.INDEX, () -> x.wholeTimes(0, k, 1));
      check.fails("38: wholeTimes of b " + k, x, Check.INDEX, () -> x.wholeTimes(0, 1, k));
    }
  }
}
