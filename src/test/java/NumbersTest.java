/** Promises 28 to 36: numbers. */
final class NumbersTest {
  private static final int MIN = Integer.MIN_VALUE;
  private static final int MAX = Integer.MAX_VALUE;
  private static final long MIN_LONG = Long.MIN_VALUE;
  private static final long MAX_LONG = Long.MAX_VALUE;
  private static final Check check = new Check();

  public static void main(String[] args) {
    plus();
    negate();
    times();
    timesHigh();
    divide();
    divideRefused();
    by();
    byAroundMultiples();
    inverse();
    inverseTimesItself();
    exact();
    exactRefused();
    extreme();
    compare();
    wrongWords();
    wrongDivisors();
    check.end();
  }

  private static void plus() {
    Bitwords x = Check.ofLongs(-1, 2, 5);
    check.due("28: over the greatest", x.plus(true, 0, 1, false), 1);
    check.due("28: its digits", Check.hex(x, true, 0), "1");
    check.due("28: below 0", x.plus(true, 0, 1, true), 64);
    check.due("28: its digits", Check.hex(x, true, 0), "ffffffffffffffff");
    check.due("28: itself more", x.plus(true, 2, 2, false), 2);
    check.due("28: its digits", Check.hex(x, true, 2), "a");
    check.due("28: itself less", x.plus(true, 2, 2, true), 0);
    Check.putShort(x, 0, -1);
    Check.putShort(x, 1, 2);
    check.due("28: of a short over the greatest", x.plus(false, 0, 1, false), 1);
    check.due("28: its digits", Check.hex(x, false, 0), "1");
    check.due("28: of a short below 0", x.plus(false, 0, 1, true), 32);
    check.due("28: its digits", Check.hex(x, false, 0), "ffffffff");
    check.due("28: the other one stays", Check.hex(x, false, 1), "2");
  }

  private static void negate() {
    Bitwords x = Check.ofLongs(1, 0, MIN_LONG, 6);
    check.due("29: of 1", x.negate(true, 0), 64);
    check.due("29: of 0", x.negate(true, 1), 0);
    check.due("29: of the least", x.negate(true, 2), 1);
    check.due("29: of 6", x.negate(true, 3), 62);
    check.due("29: its digits", Check.hex(x, true, 3), "fffffffffffffffa");
    Check.putShort(x, 0, 1);
    Check.putShort(x, 2, MIN);
    check.due("29: of a short 1", x.negate(false, 0), 32);
    check.due("29: its digits", Check.hex(x, false, 0), "ffffffff");
    check.due("29: of a short 0", x.negate(false, 1), 0);
    check.due("29: of the least short", x.negate(false, 2), 1);
  }

  private static void times() {
    Bitwords x = Check.ofLongs(-1, 10, 1L << 32, 3);
    check.due("30: -1 by 10", x.times(true, 0, 1, false), 62);
    check.due("30: its digits", Check.hex(x, true, 0), "fffffffffffffff6");
    check.due("30: 2^32 by itself", x.times(true, 2, 2, false), 0);
    check.due("30: 3 by itself", x.times(true, 3, 3, false), 2);
    check.due("30: its digits", Check.hex(x, true, 3), "9");
    Check.putShort(x, 0, -1);
    Check.putShort(x, 1, 10);
    check.due("30: of shorts", x.times(false, 0, 1, false), 30);
    check.due("30: its digits", Check.hex(x, false, 0), "fffffff6");
  }

  private static void timesHigh() {
    dueHigh(-1, -1, "fffffffffffffffe");
    dueHigh(MIN_LONG, 2, "1");
    dueHigh(MAX_LONG, 2, "0");
    dueHigh(1L << 32, 1L << 32, "1");
    dueHigh(0xffffffffL, 0xffffffffL, "0");
    dueHigh(0xffffffff00000000L, 0xffffffffL, "fffffffe");
    dueHigh(0x123456789abcdef0L, 0x0fedcba987654321L, "121fa00ad77d742");
    Bitwords x = Check.ofShorts(-1, -1, MIN, 3);
    check.due("30: of shorts, high", x.times(false, 0, 1, true), 31);
    check.due("30: its digits", Check.hex(x, false, 0), "fffffffe");
    check.due("30: of shorts, high, small", x.times(false, 2, 3, true), 1);
    check.due("30: its digits", Check.hex(x, false, 2), "1");
  }

  private static void dueHigh(long a, long b, String digits) {
    Bitwords x = Check.ofLongs(a, b);
    int ones = Long.bitCount(Long.parseUnsignedLong(digits, 16));
    check.due("30: high of " + a + " by " + b, x.times(true, 0, 1, true), ones);
    check.due("30: its digits", Check.hex(x, true, 0), digits);
    Bitwords y = Check.ofLongs(a, b);
    y.times(true, 1, 0, true);
    check.due("30: the other way", Check.hex(y, true, 1), digits);
  }

  private static void divide() {
    dueDivided(true, 100, 7, "14", "2");
    dueDivided(true, -1, 10, "1844674407370955161", "5");
    dueDivided(true, -1, 1, "18446744073709551615", "0");
    dueDivided(true, -1, -1, "1", "0");
    dueDivided(true, -2, -1, "0", "18446744073709551614");
    dueDivided(true, MIN_LONG, -1, "0", "9223372036854775808");
    dueDivided(true, -1, MIN_LONG, "1", "9223372036854775807");
    dueDivided(true, -1, MAX_LONG, "2", "1");
    dueDivided(true, 3, 7, "0", "3");
    dueDivided(true, 0, 7, "0", "0");
    dueDivided(false, -1, 10, "429496729", "5");
    dueDivided(false, MIN, -1, "0", "2147483648");
    dueDivided(false, -1, MIN, "1", "2147483647");
    dueDivided(false, 7, 7, "1", "0");
    Bitwords x = Check.ofLongs(12);
    check.due("31: by itself", x.divide(true, 0, 0, false), 1);
    check.due("31: the rest by itself", x.divide(true, 0, 0, true), 0);
  }

  private static void dueDivided(boolean isLong, long w, long divisor, String quotient, String rest) {
    for (boolean isRest : new boolean[] {false, true}) {
      Bitwords x = Check.ofLongs(w, divisor);
      Check.putShort(x, 0, (int) w);
      Check.putShort(x, 1, (int) divisor);
      String due = isRest ? rest : quotient;
      int ones = Long.bitCount(Long.parseUnsignedLong(due));
      check.due("31: " + w + " by " + divisor, x.divide(isLong, 0, 1, isRest), ones);
      check.due("31: its number", x.text(isLong, 0, 3), due);
      check.due("31: that of the other kind stays", x.ofWord(!isLong, 0, 6), (int) w);
    }
  }

  private static void divideRefused() {
    for (boolean isLong : new boolean[] {true, false}) {
      for (boolean isRest : new boolean[] {true, false}) {
        Bitwords x = Check.ofLongs(5, 0);
        Check.putShort(x, 0, 5);
        check.refuses("31: by an empty one", x, () -> x.divide(isLong, 0, 1, isRest));
        check.refuses("31: of an empty one by itself", x, () -> x.divide(isLong, 1, 1, isRest));
      }
    }
  }

  private static void by() {
    int[] by = {3, 5, 6, 9, 10};
    String[] longs = {
      "6148914691236517205", "3689348814741910323", "3074457345618258602", "2049638230412172401", "1844674407370955161"
    };
    int[] longRests = {0, 0, 3, 6, 5};
    String[] shorts = {"1431655765", "858993459", "715827882", "477218588", "429496729"};
    int[] shortRests = {0, 0, 3, 3, 5};
    for (int i = 0; i < by.length; i++) {
      Bitwords x = Check.ofLongs(-1, 0);
      Check.putShort(x, 0, -1);
      check.due("32: the greatest by " + by[i], x.by(true, 0, by[i]), longRests[i]);
      check.due("32: its number", x.text(true, 0, 3), longs[i]);
      check.due("32: the greatest short by " + by[i], x.by(false, 0, by[i]), shortRests[i]);
      check.due("32: its number", x.text(false, 0, 3), shorts[i]);
      check.due("32: 0 by " + by[i], x.by(true, 1, by[i]), 0);
      check.due("32: its number", x.text(true, 1, 3), "0");
    }
  }

  private static void byAroundMultiples() {
    for (int by : new int[] {3, 5, 6, 9, 10}) {
      long greatest = Long.divideUnsigned(-1, by);
      for (long n : new long[] {1, 2, 1000000007L, MAX_LONG / by, MAX_LONG / by + 1, greatest - 1, greatest}) {
        for (int less = 0; less < 2; less++) {
          Bitwords x = Check.ofLongs(n * by - less);
          check.due("32: " + n + " times " + by + " less " + less, x.by(true, 0, by), less == 0 ? 0 : by - 1);
          check.due("32: its number", x.text(true, 0, 3), Long.toUnsignedString(n - less));
        }
      }
    }
  }

  private static void inverse() {
    Bitwords x = Check.ofLongs(3, 1, -1, 5);
    check.due("33: of 3", x.inverse(true, 0), 33);
    check.due("33: its digits", Check.hex(x, true, 0), "aaaaaaaaaaaaaaab");
    check.due("33: of 1", x.inverse(true, 1), 1);
    check.due("33: of -1", x.inverse(true, 2), 64);
    check.due("33: of 5", x.inverse(true, 3), 33);
    check.due("33: its digits", Check.hex(x, true, 3), "cccccccccccccccd");
    Check.putShort(x, 0, 3);
    Check.putShort(x, 1, 0xfffffffe);
    check.due("33: of a short 3", x.inverse(false, 0), 17);
    check.due("33: its digits", Check.hex(x, false, 0), "aaaaaaab");
    check.refuses("33: of an even one", x, () -> x.inverse(false, 1));
    check.refuses("33: of an empty short", x, () -> x.inverse(false, 2));
    Bitwords y = Check.ofLongs(2, MIN_LONG);
    check.refuses("33: of 2", y, () -> y.inverse(true, 0));
    check.refuses("33: of 2^63", y, () -> y.inverse(true, 1));
    check.refuses("33: of an empty one", y, () -> y.inverse(true, 2));
  }

  private static void inverseTimesItself() {
    for (long w = 1; w > 0 && w < MAX_LONG / 8; w = w * 7 + 2) {
      Bitwords x = Check.ofLongs(w | 1, w | 1);
      Check.putShort(x, 0, (int) w | 1);
      Check.putShort(x, 1, (int) w | 1);
      x.inverse(true, 0);
      x.inverse(false, 0);
      check.due("33: product of " + w + " and its inverse", x.times(true, 0, 1, false), 1);
      check.due("33: its number", x.text(true, 0, 3), "1");
      check.due("33: of shorts", x.times(false, 0, 1, false), 1);
      check.due("33: its number", x.text(false, 0, 3), "1");
    }
  }

  private static void exact() {
    Bitwords x = Check.ofLongs(96, 12, -1, 0);
    check.due("34: 96 by 12", x.exact(true, 0, 1), 1);
    check.due("34: its number", x.text(true, 0, 3), "8");
    check.due("34: 0 times", x.exact(true, 3, 1), 0);
    check.due("34: by itself", x.exact(true, 1, 1), 1);
    Bitwords y = Check.ofLongs(-1, 0xffffffffL);
    check.due("34: the greatest", y.exact(true, 0, 1), 2);
    check.due("34: its number", y.text(true, 0, 3), "4294967297");
    Check.putShort(y, 0, -1);
    Check.putShort(y, 1, 0xffff);
    check.due("34: the greatest short", y.exact(false, 0, 1), 2);
    check.due("34: its number", y.text(false, 0, 3), "65537");
  }

  /** 1 by 3 would have an answer if products wrapped around, but numbers have no bound here. */
  private static void exactRefused() {
    Bitwords x = Check.ofLongs(1, 3, 0, 97);
    Check.putShort(x, 0, 1);
    Check.putShort(x, 1, 3);
    check.refuses("34: 1 by 3", x, () -> x.exact(true, 0, 1));
    check.refuses("34: 97 by 3", x, () -> x.exact(true, 3, 1));
    check.refuses("34: by an empty one", x, () -> x.exact(true, 0, 2));
    check.refuses("34: an empty one by itself", x, () -> x.exact(true, 2, 2));
    check.refuses("34: a short 1 by 3", x, () -> x.exact(false, 0, 1));
    check.refuses("34: a short by an empty one", x, () -> x.exact(false, 0, 2));
  }

  private static void extreme() {
    Bitwords x = Check.ofLongs(5, -1, MIN_LONG, MAX_LONG);
    check.due("35: the greater stays", x.extreme(true, 0, 1, true), 0);
    check.due("35: its digits", Check.hex(x, true, 0), "5");
    check.due("35: the lesser comes", x.extreme(true, 0, 1, false), 1);
    check.due("35: its digits", Check.hex(x, true, 0), "ffffffffffffffff");
    check.due("35: alike", x.extreme(true, 0, 1, false), 0);
    check.due("35: alike, greater", x.extreme(true, 0, 1, true), 0);
    check.due("35: with itself", x.extreme(true, 2, 2, true), 0);
    check.due("35: the least comes", x.extreme(true, 0, 2, false), 1);
    check.due("35: the greatest comes", x.extreme(true, 0, 3, true), 1);
    check.due("35: its digits", Check.hex(x, true, 0), "7fffffffffffffff");
    Check.putShort(x, 0, MIN);
    Check.putShort(x, 1, 1);
    check.due("35: of shorts", x.extreme(false, 0, 1, true), 1);
    check.due("35: its digits", Check.hex(x, false, 0), "1");
    check.due("35: the other one stays", Check.hex(x, false, 1), "1");
  }

  private static void compare() {
    Bitwords x = Check.ofLongs(5, -1, MIN_LONG, MAX_LONG);
    long[] w = {5, -1, MIN_LONG, MAX_LONG};
    for (int a = 0; a < 4; a++) {
      for (int b = 0; b < 4; b++) {
        check.due("36: signed " + w[a] + " and " + w[b], x.compare(true, a, b, true), Long.compare(w[a], w[b]));
        int unsigned = Long.compareUnsigned(w[a], w[b]);
        check.due("36: " + w[a] + " and " + w[b], x.compare(true, a, b, false), unsigned);
      }
    }
    Check.putShort(x, 0, MIN);
    Check.putShort(x, 1, 1);
    check.due("36: of shorts, signed", x.compare(false, 0, 1, true), -1);
    check.due("36: of shorts", x.compare(false, 0, 1, false), 1);
    check.due("36: of shorts, signed, the other way", x.compare(false, 1, 0, true), 1);
    check.due("36: of shorts, the other way", x.compare(false, 1, 0, false), -1);
    check.due("36: of itself", x.compare(false, 1, 1, false), 0);
  }

  private static void wrongWords() {
    for (int k : new int[] {-1, 4, MIN, MAX}) {
      for (boolean isLong : new boolean[] {true, false}) {
        Bitwords x = Check.ofLongs(5, 6, 7, 0);
        Check.putShort(x, 1, 9);
        check.fails("28: plus of " + k, x, Check.INDEX, () -> x.plus(isLong, k, 0, false));
        check.fails("28: plus from " + k, x, Check.INDEX, () -> x.plus(isLong, 0, k, false));
        check.fails("29: negate of " + k, x, Check.INDEX, () -> x.negate(isLong, k));
        check.fails("30: times of " + k, x, Check.INDEX, () -> x.times(isLong, k, 0, false));
        check.fails("30: times from " + k, x, Check.INDEX, () -> x.times(isLong, 0, k, true));
        check.fails("31: divide of " + k + " by an empty one", x, Check.INDEX, () -> x.divide(isLong, k, 3, false));
        check.fails("31: divide by " + k, x, Check.INDEX, () -> x.divide(isLong, 0, k, false));
        check.fails("32: by of " + k + ", by wrong too", x, Check.INDEX, () -> x.by(isLong, k, 0));
        check.fails("33: inverse of " + k, x, Check.INDEX, () -> x.inverse(isLong, k));
        check.fails("34: exact of " + k + " by an empty one", x, Check.INDEX, () -> x.exact(isLong, k, 3));
        check.fails("34: exact by " + k, x, Check.INDEX, () -> x.exact(isLong, 0, k));
        check.fails("35: extreme of " + k, x, Check.INDEX, () -> x.extreme(isLong, k, 0, true));
        check.fails("35: extreme with " + k, x, Check.INDEX, () -> x.extreme(isLong, 0, k, true));
        check.fails("36: compare of " + k, x, Check.INDEX, () -> x.compare(isLong, k, 0, true));
        check.fails("36: compare with " + k, x, Check.INDEX, () -> x.compare(isLong, 0, k, true));
      }
    }
  }

  private static void wrongDivisors() {
    for (int wrong : new int[] {-10, -3, -1, 0, 1, 2, 4, 7, 8, 11, 12, 15, MIN, MAX}) {
      Bitwords x = Check.ofLongs(100);
      Check.putShort(x, 0, 100);
      check.fails("32: by " + wrong, x, Check.ARGUMENT, () -> x.by(true, 0, wrong));
      check.fails("32: of a short by " + wrong, x, Check.ARGUMENT, () -> x.by(false, 0, wrong));
    }
  }
}
