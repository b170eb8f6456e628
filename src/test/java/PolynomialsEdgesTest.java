/** Promises 37 to 41, sentence by sentence, with the boundaries of each. */
final class PolynomialsEdgesTest {
  private static final String NO_WORD = "Throws `IndexOutOfBoundsException` if there is no such WORD";
  private static final String NO_WORDS = "Throws `IndexOutOfBoundsException` if there is no such WORD (both)";
  private static final String NO_LONG = "Throws `IndexOutOfBoundsException` if there is no such LONG, or SHORT (both)";
  private static final Edges edges = new Edges();

  public static void main(String[] args) {
    edges.says(37, "without what stands at x^SIZE and above", PolynomialsEdgesTest::timesAroundTheEnd);
    edges.says(37, "A WORD becomes the product of it and another one as POLYNOMIALS", PolynomialsEdgesTest::timesEnds);
    edges.says(37, "Returns how many ONES.", PolynomialsEdgesTest::timesItself);
    edges.says(37, NO_WORDS, PolynomialsEdgesTest::timesOfNoWord);
    edges.says(37, NO_WORDS, PolynomialsEdgesTest::timesByNoWord);
    edges.says(38, "A LONG becomes the whole product of two SHORTS as POLYNOMIALS.",
        PolynomialsEdgesTest::wholeTimesBeyondAShort);
    edges.says(38, "Returns DEGREE.", PolynomialsEdgesTest::wholeTimesOfEmptyAndAll);
    edges.says(38, NO_LONG, PolynomialsEdgesTest::wholeTimesOfNoLong);
    edges.says(38, NO_LONG, PolynomialsEdgesTest::wholeTimesOfNoShort);
    edges.says(38, NO_LONG, PolynomialsEdgesTest::wholeTimesByNoShort);
    edges.says(39, "(which has a lesser DEGREE than the other one, or is EMPTY)", PolynomialsEdgesTest::restEnds);
    edges.says(39, "A WORD is divided by another one as a POLYNOMIAL", PolynomialsEdgesTest::divideMakesItAgain);
    edges.says(39, "it becomes the quotient, or the rest", PolynomialsEdgesTest::divideEnds);
    edges.says(39, "Returns DEGREE; REFUSED if the other one is EMPTY.", PolynomialsEdgesTest::divideByEmpty);
    edges.says(39, "Returns DEGREE", PolynomialsEdgesTest::divideByItself);
    edges.says(39, NO_WORDS, PolynomialsEdgesTest::divideOfNoWord);
    edges.says(39, NO_WORDS, PolynomialsEdgesTest::divideByNoWord);
    edges.says(40, "that of the greatest DEGREE of which both are products", PolynomialsEdgesTest::gcdEnds);
    edges.says(40, "A WORD becomes the greatest common divisor of it and another one as POLYNOMIALS",
        PolynomialsEdgesTest::gcdOfTheMostDivisions);
    edges.says(40, "(the other one, if one is EMPTY)", PolynomialsEdgesTest::gcdOfEmpty);
    edges.says(40, "Returns DEGREE.", PolynomialsEdgesTest::gcdOfItself);
    edges.says(40, NO_WORDS, PolynomialsEdgesTest::gcdOfNoWord);
    edges.says(40, NO_WORDS, PolynomialsEdgesTest::gcdWithNoWord);
    edges.says(41, "A WORD becomes that with which its polyTimes() product is 1.", PolynomialsEdgesTest::inverseEnds);
    edges.says(41, "Returns DEGREE; REFUSED if its digit at 0 is 0.", PolynomialsEdgesTest::inverseWithoutTheFirst);
    edges.says(41, "REFUSED if its digit at 0 is 0.", PolynomialsEdgesTest::inverseOfEmpty);
    edges.says(41, NO_WORD, PolynomialsEdgesTest::inverseOfNoWord);
    edges.end(37, 41);
  }

  private static String call(long w, String what, long other) {
    return Long.toHexString(w) + what + Long.toHexString(other);
  }

  private static int degreeOf(long digits) {
    return 63 - Long.numberOfLeadingZeros(digits);
  }

  /** A ONE at each even PLACE: all ONES by all ONES. */
  private static long everyOther(boolean isLong) {
    return 0x5555555555555555L & Edges.all(isLong);
  }

  // ---- 37 polyTimes

  private static void dueTimes(boolean isLong, long w, long other, long then) {
    for (boolean isTurned : new boolean[] {false, true}) {
      Bitwords x = Edges.of(isLong, isTurned ? other : w, isTurned ? w : other);
      edges.makes(call(w, " * ", other), x, isLong, x.polyTimes(isLong, 0, 1), Edges.onesOf(then), then);
    }
  }

  private static void timesAroundTheEnd() {
    for (boolean isLong : Edges.KINDS) {
      long top = Edges.top(isLong);
      long middle = 1L << (Edges.sizeOf(isLong) / 2);
      dueTimes(isLong, top, 1, top);
      dueTimes(isLong, top, 2, 0);
      dueTimes(isLong, top, 3, top);
      dueTimes(isLong, top >>> 1, 2, top);
      dueTimes(isLong, top >>> 1, 3, top | (top >>> 1));
      dueTimes(isLong, middle, middle >>> 1, top);
      dueTimes(isLong, middle, middle, 0);
      dueTimes(isLong, top, top, 0);
      dueTimes(isLong, top | 1, top | 1, 1);
    }
  }

  private static void timesEnds() {
    for (boolean isLong : Edges.KINDS) {
      long all = Edges.all(isLong);
      dueTimes(isLong, 0, 0, 0);
      dueTimes(isLong, 0, all, 0);
      dueTimes(isLong, 1, all, all);
      dueTimes(isLong, 2, all, all - 1);
      dueTimes(isLong, 3, all, 1);
      dueTimes(isLong, 3, 3, 5);
      dueTimes(isLong, all, all, everyOther(isLong));
      dueTimes(isLong, Edges.top(isLong), all, Edges.top(isLong));
    }
  }

  private static void timesItself() {
    for (boolean isLong : Edges.KINDS) {
      long[] words = {0, 1, 3, 1L << (Edges.sizeOf(isLong) / 2 - 1), Edges.top(isLong), Edges.all(isLong)};
      long[] then = {0, 1, 5, Edges.top(isLong) >>> 1, 0, everyOther(isLong)};
      for (int i = 0; i < words.length; i++) {
        Bitwords x = Edges.of(isLong, words[i]);
        String call = Long.toHexString(words[i]) + " by itself";
        edges.makes(call, x, isLong, x.polyTimes(isLong, 0, 0), Edges.onesOf(then[i]), then[i]);
      }
    }
  }

  private static void timesOfNoWord() {
    edges.wordsEnd((x, isLong, k) -> x.polyTimes(isLong, k, 0));
  }

  private static void timesByNoWord() {
    edges.wordsEnd((x, isLong, k) -> x.polyTimes(isLong, 0, k));
  }

  // ---- 38 wholeTimes

  private static void dueWhole(long a, long b, long then, int degree) {
    for (boolean isTurned : new boolean[] {false, true}) {
      Bitwords x = Edges.of(false, isTurned ? b : a, isTurned ? a : b);
      Check.putLong(x, 0, -1);
      edges.makes(call(a, " * ", b), x, true, x.wholeTimes(0, 0, 1), degree, then);
      edges.due("the SHORTS stay", x.ofWord(false, 0, 0) + x.ofWord(false, 1, 0), Edges.onesOf(a) + Edges.onesOf(b));
    }
  }

  private static void wholeTimesBeyondAShort() {
    dueWhole(0x80000000L, 1, 0x80000000L, 31);
    dueWhole(0x80000000L, 2, 0x100000000L, 32);
    dueWhole(0x80000000L, 3, 0x180000000L, 32);
    dueWhole(0x80000000L, 0x80000000L, 1L << 62, 62);
    dueWhole(0x80000000L, 0x80000001L, (1L << 62) + 0x80000000L, 62);
    dueWhole(0x80000000L, 0xffffffffL, 0x7fffffff80000000L, 62);
    dueWhole(0xffffffffL, 3, 0x100000001L, 32);
  }

  private static void wholeTimesOfEmptyAndAll() {
    dueWhole(0, 0, 0, Edges.NONE);
    dueWhole(0, 0xffffffffL, 0, Edges.NONE);
    dueWhole(1, 1, 1, 0);
    dueWhole(1, 0xffffffffL, 0xffffffffL, 31);
    dueWhole(0xffffffffL, 0xffffffffL, 0x5555555555555555L, 62);
    Bitwords x = Edges.of(false, 0xffffffffL);
    edges.makes("one twice", x, true, x.wholeTimes(0, 0, 0), 62, 0x5555555555555555L);
    edges.due("NONE is not REFUSED", x.house(0), 0);
  }

  private static void wholeTimesOfNoLong() {
    edges.wordsEnd((x, isLong, k) -> x.wholeTimes(k, 0, 3));
  }

  private static void wholeTimesOfNoShort() {
    edges.wordsEnd((x, isLong, k) -> x.wholeTimes(0, k, 3));
  }

  private static void wholeTimesByNoShort() {
    edges.wordsEnd((x, isLong, k) -> x.wholeTimes(3, 0, k));
  }

  // ---- 39 polyDivide

  private static void dueDivided(boolean isLong, long w, long other, long quotient, long rest) {
    Bitwords x = Edges.of(isLong, w, other);
    int answer = x.polyDivide(isLong, 0, 1, false);
    edges.makes(call(w, " by ", other), x, isLong, answer, degreeOf(quotient), quotient);
    Bitwords y = Edges.of(isLong, w, other);
    answer = y.polyDivide(isLong, 0, 1, true);
    edges.makes(call(w, " rest by ", other), y, isLong, answer, degreeOf(rest), rest);
  }

  /** The DEGREE is one less than that of the other one, the same, and one more, for all DEGREES of that. */
  private static void restEnds() {
    for (boolean isLong : Edges.KINDS) {
      for (int degree = 1; degree < Edges.sizeOf(isLong); degree++) {
        long other = (1L << degree) | 1;
        long less = 1L << (degree - 1);
        dueDivided(isLong, less, other, 0, less);
        dueDivided(isLong, other, other, 1, 0);
        dueDivided(isLong, other ^ less, other, 1, less);
        if (degree < Edges.sizeOf(isLong) - 1) {
          dueDivided(isLong, other << 1, other, 2, 0);
          dueDivided(isLong, (other << 1) ^ less, other, 2, less);
        }
      }
    }
  }

  private static void divideEnds() {
    for (boolean isLong : Edges.KINDS) {
      long all = Edges.all(isLong);
      long top = Edges.top(isLong);
      for (long w : new long[] {0, 1, 2, top, all}) {
        dueDivided(isLong, w, 1, w, 0);
      }
      dueDivided(isLong, 0, all, 0, 0);
      dueDivided(isLong, 1, all, 0, 1);
      dueDivided(isLong, 1, 2, 0, 1);
      dueDivided(isLong, all, all, 1, 0);
      dueDivided(isLong, all, top, 1, all - top);
      dueDivided(isLong, top, all, 1, all - top);
      dueDivided(isLong, all - top, top, 0, all - top);
      dueDivided(isLong, top, 2, top >>> 1, 0);
      dueDivided(isLong, top, 3, top - 1, 1);
      dueDivided(isLong, all, 3, everyOther(isLong), 0);
    }
  }

  /** Of each quotient, other one and rest there is just one WORD, if the rest has the lesser DEGREE. */
  private static void divideMakesItAgain() {
    for (boolean isLong : Edges.KINDS) {
      int half = Edges.sizeOf(isLong) / 2;
      long lower = (1L << half) - 1;
      for (long other : new long[] {1L << (half - 1), (1L << (half - 1)) + 1, lower, 0x8765L << (half - 16)}) {
        for (long quotient : new long[] {0, 1, 2, 3, lower, 0x9abcL << (half - 16), 1L << half}) {
          for (long rest : new long[] {0, 1, other >>> 1, lower >>> 1}) {
            Bitwords x = Edges.of(isLong, quotient, other, rest);
            x.polyTimes(isLong, 0, 1);
            x.mix(isLong, 0, 2, 2);
            dueDivided(isLong, digitsOf(x, isLong), other, quotient, rest);
          }
        }
      }
    }
  }

  private static long digitsOf(Bitwords x, boolean isLong) {
    return (x.ofWord(isLong, 0, 7) * (1L << 32)) | (x.ofWord(isLong, 0, 6) & 0xffffffffL);
  }

  private static void divideByEmpty() {
    for (boolean isLong : Edges.KINDS) {
      for (boolean isRest : new boolean[] {false, true}) {
        Bitwords x = Edges.of(isLong, 1, Edges.all(isLong), 0);
        edges.refuses("1 by an empty one", x, () -> x.polyDivide(isLong, 0, 2, isRest));
        edges.refuses("all by an empty one", x, () -> x.polyDivide(isLong, 1, 2, isRest));
        edges.refuses("an empty one by itself", x, () -> x.polyDivide(isLong, 2, 2, isRest));
        edges.refuses("an empty one by another", x, () -> x.polyDivide(isLong, 2, 3, isRest));
        edges.due("an empty one by 1", x.polyDivide(isLong, 2, 0, isRest), Edges.NONE);
        edges.due("how often it was told", x.house(0), 4);
      }
    }
  }

  private static void divideByItself() {
    for (boolean isLong : Edges.KINDS) {
      for (long w : new long[] {1, 6, Edges.top(isLong), Edges.all(isLong)}) {
        Bitwords x = Edges.of(isLong, w);
        edges.makes("the quotient", x, isLong, x.polyDivide(isLong, 0, 0, false), 0, 1);
        Bitwords y = Edges.of(isLong, w);
        edges.makes("the rest", y, isLong, y.polyDivide(isLong, 0, 0, true), Edges.NONE, 0);
      }
    }
  }

  private static void divideOfNoWord() {
    edges.wordsEnd((x, isLong, k) -> x.polyDivide(isLong, k, 0, false));
    for (boolean isLong : Edges.KINDS) {
      Bitwords x = Edges.of(isLong, 5);
      edges.fails("ahead of REFUSED", x, Check.INDEX, () -> x.polyDivide(isLong, 4, 1, false));
      edges.fails("ahead of REFUSED", x, Check.INDEX, () -> x.polyDivide(isLong, -1, 1, true));
    }
  }

  private static void divideByNoWord() {
    edges.wordsEnd((x, isLong, k) -> x.polyDivide(isLong, 0, k, true));
  }

  // ---- 40 polyGcd

  private static void dueGcd(boolean isLong, long a, long b, long then) {
    for (boolean isTurned : new boolean[] {false, true}) {
      Bitwords x = Edges.of(isLong, isTurned ? b : a, isTurned ? a : b);
      edges.makes(call(a, " and ", b), x, isLong, x.polyGcd(isLong, 0, 1), degreeOf(then), then);
      edges.due("the other one stays", Check.hex(x, isLong, 1), Long.toHexString(isTurned ? a : b));
    }
  }

  /** All ONES are x + 1 taken SIZE - 1 times. */
  private static void gcdEnds() {
    for (boolean isLong : Edges.KINDS) {
      long all = Edges.all(isLong);
      long top = Edges.top(isLong);
      for (long w : new long[] {1, 2, top, top | 1, all}) {
        dueGcd(isLong, w, 1, 1);
        dueGcd(isLong, w, w, w);
      }
      dueGcd(isLong, all, top, 1);
      dueGcd(isLong, top, top >>> 1, top >>> 1);
      dueGcd(isLong, top | (top >>> 1), top, top >>> 1);
      dueGcd(isLong, top | 1, 3, 3);
      dueGcd(isLong, all, 3, 3);
      dueGcd(isLong, all, 5, 5);
      dueGcd(isLong, all, everyOther(isLong), everyOther(isLong));
      dueGcd(isLong, all, top | 1, 3);
    }
  }

  /** Each is x times the one before it and the one before that, so each division lowers the DEGREE by 1 alone. */
  private static void gcdOfTheMostDivisions() {
    for (boolean isLong : Edges.KINDS) {
      long before = 0;
      long now = 1;
      for (int degree = 1; degree < Edges.sizeOf(isLong); degree++) {
        long next = (now << 1) ^ before;
        before = now;
        now = next;
        dueGcd(isLong, before, now, 1);
      }
      edges.due("the greatest DEGREE", degreeOf(now), Edges.sizeOf(isLong) - 1);
    }
  }

  private static void gcdOfEmpty() {
    for (boolean isLong : Edges.KINDS) {
      for (long w : new long[] {0, 1, 2, 6, Edges.top(isLong), Edges.all(isLong)}) {
        dueGcd(isLong, 0, w, w);
      }
      Bitwords x = new Bitwords();
      edges.makes("an empty one with itself", x, isLong, x.polyGcd(isLong, 0, 0), Edges.NONE, 0);
      edges.due("NONE is not REFUSED", x.house(0), 0);
    }
  }

  private static void gcdOfItself() {
    for (boolean isLong : Edges.KINDS) {
      for (long w : new long[] {1, 6, Edges.top(isLong), Edges.all(isLong)}) {
        Bitwords x = Edges.of(isLong, w);
        edges.makes("with itself", x, isLong, x.polyGcd(isLong, 0, 0), degreeOf(w), w);
      }
    }
  }

  private static void gcdOfNoWord() {
    edges.wordsEnd((x, isLong, k) -> x.polyGcd(isLong, k, 0));
  }

  private static void gcdWithNoWord() {
    edges.wordsEnd((x, isLong, k) -> x.polyGcd(isLong, 0, k));
  }

  // ---- 41 polyInverse

  private static void dueInverse(boolean isLong, long w, long then) {
    for (boolean isTurned : new boolean[] {false, true}) {
      long from = isTurned ? then : w;
      long to = isTurned ? w : then;
      Bitwords x = Edges.of(isLong, from, from);
      edges.makes("of " + Long.toHexString(from), x, isLong, x.polyInverse(isLong, 0), degreeOf(to), to);
      edges.makes("their product", x, isLong, x.polyTimes(isLong, 0, 1), 1, 1);
    }
  }

  private static void inverseEnds() {
    for (boolean isLong : Edges.KINDS) {
      long top = Edges.top(isLong);
      long middle = 1L << (Edges.sizeOf(isLong) / 2);
      dueInverse(isLong, 1, 1);
      dueInverse(isLong, 3, Edges.all(isLong));
      dueInverse(isLong, 5, everyOther(isLong));
      dueInverse(isLong, top | 1, top | 1);
      dueInverse(isLong, (top >>> 1) | 1, (top >>> 1) | 1);
      dueInverse(isLong, middle | 1, middle | 1);
    }
  }

  private static void inverseWithoutTheFirst() {
    for (boolean isLong : Edges.KINDS) {
      Bitwords x = Edges.of(isLong, 2, Edges.top(isLong), Edges.all(isLong) - 1, 6);
      for (int k = 0; k < 4; k++) {
        int any = k;
        edges.refuses(Edges.nameOf(isLong) + " " + k, x, () -> x.polyInverse(isLong, any));
      }
      edges.due("how often it was told", x.house(0), 4);
    }
  }

  private static void inverseOfEmpty() {
    for (boolean isLong : Edges.KINDS) {
      Bitwords x = new Bitwords();
      edges.refuses(Edges.nameOf(isLong), x, () -> x.polyInverse(isLong, 0));
    }
  }

  private static void inverseOfNoWord() {
    edges.wordsEnd((x, isLong, k) -> x.polyInverse(isLong, k));
  }
}
