/** Promises 28 to 36, sentence by sentence, with the boundaries of each. */
final class NumbersEdgesTest {
  private static final String NO_WORD = "Throws `IndexOutOfBoundsException` if there is no such WORD";
  private static final String NO_WORDS = "Throws `IndexOutOfBoundsException` if there is no such WORD (both)";
  private static final String NO_EXACT = "REFUSED if it is not so, or the other one is EMPTY.";
  private static final String TELLS_ONES = "Returns how many ONES.";
  private static final int[] SMALL = {3, 5, 6, 9, 10};
  private static final Edges edges = new Edges();

  public static void main(String[] args) {
    edges.says(28, "A WORD becomes its NUMBER and that of another one more", NumbersEdgesTest::plusAroundTheEnd);
    edges.says(28, "or less", NumbersEdgesTest::lessAroundTheEnd);
    edges.says(28, TELLS_ONES, NumbersEdgesTest::plusItself);
    edges.says(28, NO_WORDS, NumbersEdgesTest::plusOfNoWord);
    edges.says(28, NO_WORDS, NumbersEdgesTest::plusFromNoWord);
    edges.says(29, "A WORD becomes 0 less its NUMBER.", NumbersEdgesTest::negateEnds);
    edges.says(29, TELLS_ONES, NumbersEdgesTest::negateTwice);
    edges.says(29, NO_WORD, NumbersEdgesTest::negateOfNoWord);
    edges.says(30, "A WORD becomes the product of its NUMBER and that of another one",
        NumbersEdgesTest::timesAroundTheEnd);
    edges.says(30, "or (high) that divided by 2^SIZE, rounded down", NumbersEdgesTest::highAroundTheEnd);
    edges.says(30, TELLS_ONES, NumbersEdgesTest::timesItself);
    edges.says(30, NO_WORDS, NumbersEdgesTest::timesOfNoWord);
    edges.says(30, NO_WORDS, NumbersEdgesTest::timesFromNoWord);
    edges.says(31, "divided by that of another one, rounded down, or the rest", NumbersEdgesTest::divideAroundTheOther);
    edges.says(31, "A WORD becomes its NUMBER", NumbersEdgesTest::divideEnds);
    edges.says(31, "Returns how many ONES", NumbersEdgesTest::divideByItself);
    edges.says(31, "REFUSED if the other one is EMPTY.", NumbersEdgesTest::divideByEmpty);
    edges.says(31, NO_WORDS, NumbersEdgesTest::divideOfNoWord);
    edges.says(31, NO_WORDS, NumbersEdgesTest::divideByNoWord);
    edges.says(32, "A WORD becomes its NUMBER divided by a small one, rounded down",
        NumbersEdgesTest::byAroundMultiples);
    edges.says(32, "Returns the rest.", NumbersEdgesTest::byEnds);
    edges.says(32, "(no division is done: an inverse is multiplied with)", NumbersEdgesTest::byEachDigit);
    edges.says(32, NO_WORD, NumbersEdgesTest::byOfNoWord);
    edges.says(32, "Throws `IllegalArgumentException` if by is none of these", NumbersEdgesTest::byNoneOfThese);
    edges.says(33, "A WORD becomes its INVERSE: that with which its product becomes 1.", NumbersEdgesTest::inverseEnds);
    edges.says(33, "Returns how many ONES", NumbersEdgesTest::inverseOfEachPower);
    edges.says(33, "REFUSED if its NUMBER is even.", NumbersEdgesTest::inverseOfEven);
    edges.says(33, "REFUSED if its NUMBER is even.", NumbersEdgesTest::inverseOfEmpty);
    edges.says(33, NO_WORD, NumbersEdgesTest::inverseOfNoWord);
    edges.says(34, "A WORD becomes its NUMBER divided by that of another one, of which it is some whole times as much",
        NumbersEdgesTest::exactOfMultiples);
    edges.says(34, "of which it is some whole times as much (0 times, too)", NumbersEdgesTest::exactEnds);
    edges.says(34, "as numbers without a bound", NumbersEdgesTest::exactWithoutBound);
    edges.says(34, "Returns how many ONES", NumbersEdgesTest::exactTellsOnes);
    edges.says(34, NO_EXACT, NumbersEdgesTest::exactNotSo);
    edges.says(34, NO_EXACT, NumbersEdgesTest::exactByEmpty);
    edges.says(34, NO_WORDS, NumbersEdgesTest::exactOfNoWord);
    edges.says(34, NO_WORDS, NumbersEdgesTest::exactByNoWord);
    edges.says(35,
        "A WORD becomes that of itself and another one that has the greater SIGNED number, or the lesser one.",
        NumbersEdgesTest::extremeEnds);
    edges.says(35, "Returns 1 if it became another one, otherwise 0.", NumbersEdgesTest::extremeOfTheSame);
    edges.says(35, NO_WORDS, NumbersEdgesTest::extremeOfNoWord);
    edges.says(35, NO_WORDS, NumbersEdgesTest::extremeWithNoWord);
    edges.says(36, "whether by SIGNED numbers", NumbersEdgesTest::compareSigned);
    edges.says(36, "otherwise by NUMBERS", NumbersEdgesTest::compareUnsigned);
    edges.says(36, "Returns -1, 0 or 1", NumbersEdgesTest::compareOfTheSame);
    edges.says(36, "as that of a is less, the same, or greater.", NumbersEdgesTest::compareBesideEachPower);
    edges.says(36, NO_WORDS, NumbersEdgesTest::compareOfNoWord);
    edges.says(36, NO_WORDS, NumbersEdgesTest::compareWithNoWord);
    edges.end(28, 36);
  }

  /** 2^(SIZE / 2). */
  private static long middle(boolean isLong) {
    return isLong ? 1L << 32 : 1L << 16;
  }

  private static String call(long w, String what, long other) {
    return Long.toHexString(w) + what + Long.toHexString(other);
  }

  // ---- 28 plus

  private static void duePlus(boolean isLong, boolean isLess, long w, long other, long then) {
    Bitwords x = Edges.of(isLong, w, other);
    int answer = x.plus(isLong, 0, 1, isLess);
    edges.makes(call(w, isLess ? " - " : " + ", other), x, isLong, answer, Edges.onesOf(then), then);
    edges.due("the other one stays", Check.hex(x, isLong, 1), Long.toHexString(other));
  }

  private static void plusAroundTheEnd() {
    for (boolean isLong : Edges.KINDS) {
      long all = Edges.all(isLong);
      long top = Edges.top(isLong);
      duePlus(isLong, false, 0, 0, 0);
      duePlus(isLong, false, all - 1, 1, all);
      duePlus(isLong, false, all, 0, all);
      duePlus(isLong, false, 0, all, all);
      duePlus(isLong, false, all, 1, 0);
      duePlus(isLong, false, 1, all, 0);
      duePlus(isLong, false, all, 2, 1);
      duePlus(isLong, false, all, all, all - 1);
      duePlus(isLong, false, top - 1, 1, top);
      duePlus(isLong, false, top, top - 1, all);
      duePlus(isLong, false, top, top, 0);
    }
    duePlus(true, false, 0xffffffffL, 1, 0x100000000L);
  }

  private static void lessAroundTheEnd() {
    for (boolean isLong : Edges.KINDS) {
      long all = Edges.all(isLong);
      long top = Edges.top(isLong);
      duePlus(isLong, true, 0, 0, 0);
      duePlus(isLong, true, 1, 1, 0);
      duePlus(isLong, true, 0, 1, all);
      duePlus(isLong, true, 1, 2, all);
      duePlus(isLong, true, 0, all, 1);
      duePlus(isLong, true, all, all, 0);
      duePlus(isLong, true, all - 1, all, all);
      duePlus(isLong, true, top, 1, top - 1);
      duePlus(isLong, true, 0, top, top);
    }
    duePlus(true, true, 0x100000000L, 1, 0xffffffffL);
  }

  private static void plusItself() {
    for (boolean isLong : Edges.KINDS) {
      long top = Edges.top(isLong);
      long[] words = {0, 1, top - 1, top, Edges.all(isLong)};
      long[] twice = {0, 2, Edges.all(isLong) - 1, 0, Edges.all(isLong) - 1};
      for (int i = 0; i < words.length; i++) {
        Bitwords x = Edges.of(isLong, words[i]);
        edges.makes("itself more", x, isLong, x.plus(isLong, 0, 0, false), Edges.onesOf(twice[i]), twice[i]);
        edges.makes("itself less", x, isLong, x.plus(isLong, 0, 0, true), 0, 0);
      }
    }
  }

  private static void plusOfNoWord() {
    edges.wordsEnd((x, isLong, k) -> x.plus(isLong, k, 0, false));
    edges.wordsEnd((x, isLong, k) -> x.plus(isLong, k, 0, true));
  }

  private static void plusFromNoWord() {
    edges.wordsEnd((x, isLong, k) -> x.plus(isLong, 0, k, false));
    edges.wordsEnd((x, isLong, k) -> x.plus(isLong, 0, k, true));
  }

  // ---- 29 negate

  private static void negateEnds() {
    for (boolean isLong : Edges.KINDS) {
      long all = Edges.all(isLong);
      long top = Edges.top(isLong);
      long[] words = {0, 1, 2, top - 1, top, top + 1, all - 1, all};
      long[] then = {0, all, all - 1, top + 1, top, top - 1, 2, 1};
      for (int i = 0; i < words.length; i++) {
        Bitwords x = Edges.of(isLong, words[i]);
        String of = "of " + Long.toHexString(words[i]);
        edges.makes(of, x, isLong, x.negate(isLong, 0), Edges.onesOf(then[i]), then[i]);
      }
    }
  }

  private static void negateTwice() {
    for (boolean isLong : Edges.KINDS) {
      for (long w : new long[] {0, 1, Edges.top(isLong), Edges.all(isLong)}) {
        Bitwords x = Edges.of(isLong, w);
        x.negate(isLong, 0);
        edges.makes("back", x, isLong, x.negate(isLong, 0), Edges.onesOf(w), w);
      }
    }
  }

  private static void negateOfNoWord() {
    edges.wordsEnd((x, isLong, k) -> x.negate(isLong, k));
  }

  // ---- 30 times

  private static void dueTimes(boolean isLong, boolean isHigh, long w, long other, long then) {
    for (boolean isTurned : new boolean[] {false, true}) {
      Bitwords x = Edges.of(isLong, isTurned ? other : w, isTurned ? w : other);
      int answer = x.times(isLong, 0, 1, isHigh);
      edges.makes(call(w, isHigh ? " high * " : " * ", other), x, isLong, answer, Edges.onesOf(then), then);
    }
  }

  private static void timesAroundTheEnd() {
    for (boolean isLong : Edges.KINDS) {
      long all = Edges.all(isLong);
      long top = Edges.top(isLong);
      long middle = middle(isLong);
      dueTimes(isLong, false, 0, all, 0);
      dueTimes(isLong, false, 1, all, all);
      dueTimes(isLong, false, middle - 1, middle + 1, all);
      dueTimes(isLong, false, middle, middle, 0);
      dueTimes(isLong, false, top, 2, 0);
      dueTimes(isLong, false, top - 1, 2, all - 1);
      dueTimes(isLong, false, top, 3, top);
      dueTimes(isLong, false, all, 2, all - 1);
      dueTimes(isLong, false, all, all, 1);
    }
  }

  private static void highAroundTheEnd() {
    for (boolean isLong : Edges.KINDS) {
      long all = Edges.all(isLong);
      long top = Edges.top(isLong);
      long middle = middle(isLong);
      dueTimes(isLong, true, 0, all, 0);
      dueTimes(isLong, true, 1, all, 0);
      dueTimes(isLong, true, middle - 1, middle + 1, 0);
      dueTimes(isLong, true, middle, middle, 1);
      dueTimes(isLong, true, top - 1, 2, 0);
      dueTimes(isLong, true, top, 2, 1);
      dueTimes(isLong, true, all, 2, 1);
      dueTimes(isLong, true, all, 3, 2);
      dueTimes(isLong, true, all, middle, middle - 1);
      dueTimes(isLong, true, top, top, top >>> 1);
      dueTimes(isLong, true, all, all, all - 1);
    }
  }

  private static void timesItself() {
    for (boolean isLong : Edges.KINDS) {
      long all = Edges.all(isLong);
      long middle = middle(isLong);
      long[] words = {0, 1, middle - 1, middle, Edges.top(isLong), all};
      long[] low = {0, 1, (middle - 1) * (middle - 1), 0, 0, 1};
      long[] high = {0, 0, 0, 1, Edges.top(isLong) >>> 1, all - 1};
      for (int i = 0; i < words.length; i++) {
        Bitwords x = Edges.of(isLong, words[i]);
        edges.makes("product", x, isLong, x.times(isLong, 0, 0, false), Edges.onesOf(low[i]), low[i]);
        Bitwords y = Edges.of(isLong, words[i]);
        edges.makes("high", y, isLong, y.times(isLong, 0, 0, true), Edges.onesOf(high[i]), high[i]);
      }
    }
  }

  private static void timesOfNoWord() {
    edges.wordsEnd((x, isLong, k) -> x.times(isLong, k, 0, false));
    edges.wordsEnd((x, isLong, k) -> x.times(isLong, k, 0, true));
  }

  private static void timesFromNoWord() {
    edges.wordsEnd((x, isLong, k) -> x.times(isLong, 0, k, false));
    edges.wordsEnd((x, isLong, k) -> x.times(isLong, 0, k, true));
  }

  // ---- 31 divide

  private static void dueDivided(boolean isLong, long w, long other, long quotient, long rest) {
    Bitwords x = Edges.of(isLong, w, other);
    edges.makes(call(w, " by ", other), x, isLong, x.divide(isLong, 0, 1, false), Edges.onesOf(quotient), quotient);
    Bitwords y = Edges.of(isLong, w, other);
    edges.makes(call(w, " rest by ", other), y, isLong, y.divide(isLong, 0, 1, true), Edges.onesOf(rest), rest);
  }

  /** One less than the other one, just as much, one more; and around twice as much where that is a NUMBER. */
  private static void divideAroundTheOther() {
    for (boolean isLong : Edges.KINDS) {
      long all = Edges.all(isLong);
      long top = Edges.top(isLong);
      for (long other : new long[] {2, 3, 10, middle(isLong), top - 1, top, top + 1, all - 1}) {
        dueDivided(isLong, other - 1, other, 0, other - 1);
        dueDivided(isLong, other, other, 1, 0);
        dueDivided(isLong, other + 1, other, 1, 1);
      }
      for (long other : new long[] {3, 10, middle(isLong), top - 1}) {
        dueDivided(isLong, 2 * other - 1, other, 1, other - 1);
        dueDivided(isLong, 2 * other, other, 2, 0);
        dueDivided(isLong, 2 * other + 1, other, 2, 1);
      }
    }
  }

  private static void divideEnds() {
    for (boolean isLong : Edges.KINDS) {
      long all = Edges.all(isLong);
      long top = Edges.top(isLong);
      for (long w : new long[] {0, 1, top - 1, top, all}) {
        dueDivided(isLong, w, 1, w, 0);
      }
      dueDivided(isLong, 0, all, 0, 0);
      dueDivided(isLong, 1, all, 0, 1);
      dueDivided(isLong, all - 1, all, 0, all - 1);
      dueDivided(isLong, all, all, 1, 0);
      dueDivided(isLong, all, all - 1, 1, 1);
      dueDivided(isLong, all, 2, top - 1, 1);
      dueDivided(isLong, all, top, 1, top - 1);
      dueDivided(isLong, all, top - 1, 2, 1);
      dueDivided(isLong, top, all, 0, top);
      dueDivided(isLong, top, 2, top >>> 1, 0);
    }
  }

  private static void divideByItself() {
    for (boolean isLong : Edges.KINDS) {
      for (long w : new long[] {1, Edges.top(isLong), Edges.all(isLong)}) {
        Bitwords x = Edges.of(isLong, w);
        edges.makes("the rest", x, isLong, x.divide(isLong, 0, 0, true), 0, 0);
        Bitwords y = Edges.of(isLong, w);
        edges.makes("the quotient", y, isLong, y.divide(isLong, 0, 0, false), 1, 1);
      }
    }
  }

  private static void divideByEmpty() {
    for (boolean isLong : Edges.KINDS) {
      for (boolean isRest : new boolean[] {false, true}) {
        Bitwords x = Edges.of(isLong, 1, Edges.all(isLong), 0);
        edges.refuses("1 by an empty one", x, () -> x.divide(isLong, 0, 2, isRest));
        edges.refuses("all by an empty one", x, () -> x.divide(isLong, 1, 2, isRest));
        edges.refuses("an empty one by itself", x, () -> x.divide(isLong, 2, 2, isRest));
        edges.refuses("an empty one by another", x, () -> x.divide(isLong, 2, 3, isRest));
        edges.due("an empty one by 1", x.divide(isLong, 2, 0, isRest), 0);
        edges.due("how often it was told", x.house(0), 4);
      }
    }
  }

  private static void divideOfNoWord() {
    edges.wordsEnd((x, isLong, k) -> x.divide(isLong, k, 0, false));
    for (boolean isLong : Edges.KINDS) {
      Bitwords x = Edges.of(isLong, 5);
      edges.fails("ahead of REFUSED", x, Check.INDEX, () -> x.divide(isLong, 4, 1, false));
      edges.fails("ahead of REFUSED", x, Check.INDEX, () -> x.divide(isLong, -1, 1, true));
    }
  }

  private static void divideByNoWord() {
    edges.wordsEnd((x, isLong, k) -> x.divide(isLong, 0, k, true));
  }

  // ---- 32 by

  private static void dueBy(boolean isLong, long w, int by, long quotient, int rest) {
    Bitwords x = Edges.of(isLong, w);
    edges.makes(Long.toHexString(w) + " by " + by, x, isLong, x.by(isLong, 0, by), rest, quotient);
  }

  private static void byAroundMultiples() {
    for (boolean isLong : Edges.KINDS) {
      for (int by : SMALL) {
        long greatest = Long.divideUnsigned(Edges.all(isLong), by);
        for (long n : new long[] {1, 2, by, middle(isLong), greatest / 2, greatest - 1, greatest}) {
          dueBy(isLong, n * by - 1, by, n - 1, by - 1);
          dueBy(isLong, n * by, by, n, 0);
        }
        dueBy(isLong, greatest * by - by + 1, by, greatest - 1, 1);
      }
    }
  }

  private static void byEnds() {
    long[] all = {0x5555555555555555L, 0x3333333333333333L, 0x2aaaaaaaaaaaaaaaL, 0x1c71c71c71c71c71L, 0x1999999999999999L};
    int[] rests = {0, 0, 3, 6, 5};
    long[] shorts = {0x55555555L, 0x33333333L, 0x2aaaaaaaL, 0x1c71c71cL, 0x19999999L};
    int[] restsOfShorts = {0, 0, 3, 3, 5};
    for (int i = 0; i < SMALL.length; i++) {
      dueBy(true, -1, SMALL[i], all[i], rests[i]);
      dueBy(false, 0xffffffffL, SMALL[i], shorts[i], restsOfShorts[i]);
      for (boolean isLong : Edges.KINDS) {
        for (int w = 0; w < SMALL[i]; w++) {
          dueBy(isLong, w, SMALL[i], 0, w);
        }
        dueBy(isLong, SMALL[i], SMALL[i], 1, 0);
        dueBy(isLong, SMALL[i] + 1, SMALL[i], 1, 1);
      }
    }
  }

  /** Around each power of 2: the inverse must have as many digits as the longest NUMBER needs. */
  private static void byEachDigit() {
    for (boolean isLong : Edges.KINDS) {
      for (int by : SMALL) {
        for (int p = 1; p < Edges.sizeOf(isLong); p++) {
          for (long w : new long[] {(1L << p) - 1, 1L << p, (1L << p) + 1, Edges.all(isLong) - (1L << p)}) {
            dueBy(isLong, w, by, Long.divideUnsigned(w, by), (int) Long.remainderUnsigned(w, by));
          }
        }
      }
    }
  }

  private static void byOfNoWord() {
    for (int by : SMALL) {
      edges.wordsEnd((x, isLong, k) -> x.by(isLong, k, by));
    }
    Bitwords x = Edges.busy();
    edges.fails("ahead of by 0", x, Check.INDEX, () -> x.by(true, 4, 0));
    edges.fails("ahead of by 4", x, Check.INDEX, () -> x.by(false, -1, 4));
  }

  private static void byNoneOfThese() {
    for (boolean isLong : Edges.KINDS) {
      for (int by : SMALL) {
        edges.answers("by " + by, () -> Edges.busy().by(isLong, 0, by));
        Bitwords x = Edges.busy();
        edges.fails("by " + -by, x, Check.ARGUMENT, () -> x.by(isLong, 0, -by));
      }
      for (int by : new int[] {Edges.MIN, -1, 0, 1, 2, 4, 7, 8, 11, 12, 15, 18, 20, 30, Edges.MAX}) {
        Bitwords x = Edges.busy();
        edges.fails("by " + by, x, Check.ARGUMENT, () -> x.by(isLong, 0, by));
      }
    }
  }

  // ---- 33 inverse

  private static void dueInverse(boolean isLong, long w, long then) {
    for (boolean isTurned : new boolean[] {false, true}) {
      long from = isTurned ? then : w;
      long to = isTurned ? w : then;
      Bitwords x = Edges.of(isLong, from, from);
      edges.makes("of " + Long.toHexString(from), x, isLong, x.inverse(isLong, 0), Edges.onesOf(to), to);
      edges.makes("their product", x, isLong, x.times(isLong, 0, 1, false), 1, 1);
    }
  }

  private static void inverseEnds() {
    for (boolean isLong : Edges.KINDS) {
      long all = Edges.all(isLong);
      long top = Edges.top(isLong);
      dueInverse(isLong, 1, 1);
      dueInverse(isLong, all, all);
      dueInverse(isLong, top + 1, top + 1);
      dueInverse(isLong, top - 1, top - 1);
      dueInverse(isLong, 3, 0xaaaaaaaaaaaaaaabL & all);
      dueInverse(isLong, 5, 0xcccccccccccccccdL & all);
      dueInverse(isLong, middle(isLong) + 1, all - middle(isLong) + 2);
    }
  }

  /** (1 + 2^p) (1 - 2^p + 2^2p - 2^3p + ..) is 1, since what stands at SIZE and above is gone. */
  private static void inverseOfEachPower() {
    for (boolean isLong : Edges.KINDS) {
      for (int p = 1; p < Edges.sizeOf(isLong); p++) {
        long then = 0;
        for (int n = 0; n * p < Edges.sizeOf(isLong); n++) {
          then += n % 2 == 0 ? 1L << (n * p) : -(1L << (n * p));
        }
        dueInverse(isLong, (1L << p) + 1, then & Edges.all(isLong));
      }
    }
  }

  private static void inverseOfEven() {
    for (boolean isLong : Edges.KINDS) {
      Bitwords x = Edges.of(isLong, 2, Edges.top(isLong), Edges.all(isLong) - 1, 6);
      for (int k = 0; k < 4; k++) {
        int any = k;
        edges.refuses(Edges.nameOf(isLong) + " " + k, x, () -> x.inverse(isLong, any));
      }
      edges.due("how often it was told", x.house(0), 4);
    }
  }

  private static void inverseOfEmpty() {
    for (boolean isLong : Edges.KINDS) {
      Bitwords x = new Bitwords();
      edges.refuses(Edges.nameOf(isLong), x, () -> x.inverse(isLong, 0));
    }
  }

  private static void inverseOfNoWord() {
    edges.wordsEnd((x, isLong, k) -> x.inverse(isLong, k));
  }

  // ---- 34 exact

  private static void dueExact(boolean isLong, long w, long other, long then) {
    Bitwords x = Edges.of(isLong, w, other);
    edges.makes(call(w, " by ", other), x, isLong, x.exact(isLong, 0, 1), Edges.onesOf(then), then);
  }

  private static void dueNotExact(boolean isLong, long w, long other) {
    Bitwords x = Edges.of(isLong, w, other);
    edges.refuses(Edges.nameOf(isLong) + " " + call(w, " by ", other), x, () -> x.exact(isLong, 0, 1));
  }

  private static void exactEnds() {
    for (boolean isLong : Edges.KINDS) {
      long all = Edges.all(isLong);
      long top = Edges.top(isLong);
      for (long other : new long[] {1, 2, 3, top - 1, top, top + 1, all}) {
        dueExact(isLong, 0, other, 0);
        dueExact(isLong, other, other, 1);
        dueExact(isLong, other, 1, other);
      }
      dueExact(isLong, all - 1, top - 1, 2);
      dueExact(isLong, top, 2, top >>> 1);
      dueExact(isLong, all, 3, 0x5555555555555555L & all);
      dueExact(isLong, all, middle(isLong) + 1, middle(isLong) - 1);
      Bitwords x = Edges.of(isLong, all);
      edges.makes("by itself", x, isLong, x.exact(isLong, 0, 0), 1, 1);
    }
  }

  /** All multiples, or those by a power of 2, that are NUMBERS. */
  private static void exactOfMultiples() {
    for (boolean isLong : Edges.KINDS) {
      for (long other : new long[] {3, 7, 10, middle(isLong) - 1, middle(isLong), middle(isLong) + 1}) {
        long greatest = Long.divideUnsigned(Edges.all(isLong), other);
        for (long n = 1; n > 0 && n <= greatest; n *= 2) {
          dueExact(isLong, n * other, other, n);
          dueExact(isLong, (greatest - n + 1) * other, other, greatest - n + 1);
        }
      }
    }
  }

  private static void exactTellsOnes() {
    for (boolean isLong : Edges.KINDS) {
      for (int n = 0; n < Edges.sizeOf(isLong); n++) {
        Bitwords x = Edges.of(isLong, ((1L << n) - 1) << 1, 2);
        edges.due(Edges.nameOf(isLong) + ", ONES", x.exact(isLong, 0, 1), n);
        edges.due(Edges.nameOf(isLong) + ", which it has", x.ofWord(isLong, 0, 0), n);
      }
    }
  }

  /** Each of these would have an answer if products were the rests by 2^SIZE. */
  private static void exactWithoutBound() {
    for (boolean isLong : Edges.KINDS) {
      long all = Edges.all(isLong);
      dueNotExact(isLong, 1, 3);
      dueNotExact(isLong, 1, all);
      dueNotExact(isLong, 2, 3);
      dueNotExact(isLong, all - 1, all);
      dueNotExact(isLong, 2, all - 1);
    }
  }

  private static void exactNotSo() {
    for (boolean isLong : Edges.KINDS) {
      long all = Edges.all(isLong);
      long top = Edges.top(isLong);
      dueNotExact(isLong, 1, 2);
      dueNotExact(isLong, 11, 12);
      dueNotExact(isLong, 13, 12);
      dueNotExact(isLong, all, 2);
      dueNotExact(isLong, all, top);
      dueNotExact(isLong, top, all);
      dueNotExact(isLong, top, top + 1);
      dueNotExact(isLong, top + 1, top);
      dueNotExact(isLong, all, all - 1);
    }
  }

  private static void exactByEmpty() {
    for (boolean isLong : Edges.KINDS) {
      dueNotExact(isLong, 1, 0);
      dueNotExact(isLong, Edges.all(isLong), 0);
      dueNotExact(isLong, 0, 0);
      Bitwords x = new Bitwords();
      edges.refuses("an empty one by itself", x, () -> x.exact(isLong, 0, 0));
    }
  }

  private static void exactOfNoWord() {
    edges.wordsEnd((x, isLong, k) -> x.exact(isLong, k, 0));
    for (boolean isLong : Edges.KINDS) {
      Bitwords x = Edges.of(isLong, 5);
      edges.fails("ahead of REFUSED", x, Check.INDEX, () -> x.exact(isLong, 4, 1));
    }
  }

  private static void exactByNoWord() {
    edges.wordsEnd((x, isLong, k) -> x.exact(isLong, 0, k));
  }

  // ---- 35 extreme, 36 compare

  /** The words from the least SIGNED number to the greatest. */
  private static long[] rising(boolean isLong) {
    long all = Edges.all(isLong);
    long top = Edges.top(isLong);
    return new long[] {top, top + 1, all - 1, all, 0, 1, top - 2, top - 1};
  }

  private static void extremeEnds() {
    for (boolean isLong : Edges.KINDS) {
      long[] words = rising(isLong);
      for (int i = 0; i < words.length; i++) {
        for (int j = 0; j < words.length; j++) {
          String call = call(words[i], " and ", words[j]);
          Bitwords x = Edges.of(isLong, words[i], words[j]);
          int answer = x.extreme(isLong, 0, 1, true);
          edges.makes(call + ", the greater", x, isLong, answer, j > i ? 1 : 0, words[Math.max(i, j)]);
          Bitwords y = Edges.of(isLong, words[i], words[j]);
          answer = y.extreme(isLong, 0, 1, false);
          edges.makes(call + ", the lesser", y, isLong, answer, j < i ? 1 : 0, words[Math.min(i, j)]);
        }
      }
    }
  }

  private static void extremeOfTheSame() {
    for (boolean isLong : Edges.KINDS) {
      for (long w : rising(isLong)) {
        for (boolean isGreater : new boolean[] {true, false}) {
          Bitwords x = Edges.of(isLong, w, w);
          edges.makes("one like it", x, isLong, x.extreme(isLong, 0, 1, isGreater), 0, w);
          edges.makes("itself", x, isLong, x.extreme(isLong, 0, 0, isGreater), 0, w);
        }
      }
    }
  }

  private static void extremeOfNoWord() {
    edges.wordsEnd((x, isLong, k) -> x.extreme(isLong, k, 0, true));
    edges.wordsEnd((x, isLong, k) -> x.extreme(isLong, k, 0, false));
  }

  private static void extremeWithNoWord() {
    edges.wordsEnd((x, isLong, k) -> x.extreme(isLong, 0, k, true));
    edges.wordsEnd((x, isLong, k) -> x.extreme(isLong, 0, k, false));
  }

  private static void compareSigned() {
    for (boolean isLong : Edges.KINDS) {
      dueCompared(isLong, true, rising(isLong));
    }
  }

  private static void compareUnsigned() {
    for (boolean isLong : Edges.KINDS) {
      long all = Edges.all(isLong);
      long top = Edges.top(isLong);
      dueCompared(isLong, false, new long[] {0, 1, top - 2, top - 1, top, top + 1, all - 1, all});
    }
  }

  private static void dueCompared(boolean isLong, boolean isSigned, long[] words) {
    for (int i = 0; i < words.length; i++) {
      for (int j = 0; j < words.length; j++) {
        Bitwords x = Edges.of(isLong, words[i], words[j]);
        String call = Edges.nameOf(isLong) + " " + call(words[i], " and ", words[j]);
        edges.due(call, x.compare(isLong, 0, 1, isSigned), Integer.compare(i, j));
      }
    }
  }

  private static void compareOfTheSame() {
    for (boolean isLong : Edges.KINDS) {
      for (long w : rising(isLong)) {
        Bitwords x = Edges.of(isLong, w, w);
        edges.due("by SIGNED numbers", x.compare(isLong, 0, 1, true), 0);
        edges.due("by NUMBERS", x.compare(isLong, 0, 1, false), 0);
        edges.due("itself", x.compare(isLong, 0, 0, true), 0);
      }
    }
  }

  /** 2^p less 1, 2^p, and 1 more; and each of them with digits that are all the other ones. */
  private static void compareBesideEachPower() {
    for (boolean isLong : Edges.KINDS) {
      long all = Edges.all(isLong);
      for (int p = 2; p < Edges.sizeOf(isLong) - 1; p++) {
        long w = 1L << p;
        dueCompared(isLong, true, new long[] {all ^ (w + 1), all ^ w, all ^ (w - 1), w - 1, w, w + 1});
        dueCompared(isLong, false, new long[] {w - 1, w, w + 1, all ^ (w + 1), all ^ w, all ^ (w - 1)});
      }
    }
  }

  private static void compareOfNoWord() {
    edges.wordsEnd((x, isLong, k) -> x.compare(isLong, k, 0, true));
    edges.wordsEnd((x, isLong, k) -> x.compare(isLong, k, 0, false));
  }

  private static void compareWithNoWord() {
    edges.wordsEnd((x, isLong, k) -> x.compare(isLong, 0, k, true));
    edges.wordsEnd((x, isLong, k) -> x.compare(isLong, 0, k, false));
  }
}
