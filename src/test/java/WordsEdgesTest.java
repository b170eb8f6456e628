/** Promises 1 to 8, sentence by sentence, with the boundaries of each. */
final class WordsEdgesTest {
  private static final String NO_WORD = "Throws `IndexOutOfBoundsException` if there is no such WORD";
  private static final String NO_WORDS = "Throws `IndexOutOfBoundsException` if there is no such WORD (both)";
  private static final String NO_LONG = "Throws `IndexOutOfBoundsException` if there is no such LONG, or SHORT";
  private static final String NO_SHORT = "Throws `IndexOutOfBoundsException` if there is no such SHORT, or LONG";
  private static final String NO_PLACE = "Throws `IndexOutOfBoundsException` if there is no such WORD, or PLACE";
  private static final String NO_WHAT = "Throws `IllegalArgumentException` if what is not 0 to 9";
  private static final Edges edges = new Edges();

  public static void main(String[] args) {
    edges.says(1, "Creates eight words without ones.", WordsEdgesTest::aNewObject);
    edges.says(2, "A WORD becomes other digits.", WordsEdgesTest::putOverOthers);
    edges.says(2, "of a LONG: the PLACES 32 to 63, as the SIGNED number of a WORD of 32", WordsEdgesTest::putHigh);
    edges.says(2, "of a SHORT not looked at", WordsEdgesTest::putHighOfAShort);
    edges.says(2, "the PLACES 0 to 31, likewise", WordsEdgesTest::putLow);
    edges.says(2, "Returns how many ONES.", WordsEdgesTest::putEmptyAndAll);
    edges.says(2, NO_WORD, WordsEdgesTest::putOfNoWord);
    edges.says(3, "A WORD becomes as another one.", WordsEdgesTest::copyOfEmptyAndAll);
    edges.says(3, "Returns how many ONES.", WordsEdgesTest::copyOfItself);
    edges.says(3, NO_WORDS, WordsEdgesTest::copyOfNoWord);
    edges.says(3, NO_WORDS, WordsEdgesTest::copyFromNoWord);
    edges.says(4, "A LONG gets the digits of a SHORT at the PLACES 0 to 31", WordsEdgesTest::widenEnds);
    edges.says(4, "at the others each time 0, or that at 31", WordsEdgesTest::widenAroundTheSign);
    edges.says(4, "Returns how many ONES.", WordsEdgesTest::widenOfEmptyAndAll);
    edges.says(4, NO_LONG, WordsEdgesTest::widenOfNoLong);
    edges.says(4, NO_LONG, WordsEdgesTest::widenFromNoShort);
    edges.says(5, "A SHORT gets the digits of a LONG at the PLACES 0 to 31, or 32 to 63.", WordsEdgesTest::narrowEnds);
    edges.says(5, "Returns how many ONES.", WordsEdgesTest::narrowOfEmptyAndAll);
    edges.says(5, NO_SHORT, WordsEdgesTest::narrowOfNoShort);
    edges.says(5, NO_SHORT, WordsEdgesTest::narrowFromNoLong);
    edges.says(6, "Returns its digit there.", WordsEdgesTest::digitAtTheEnds);
    edges.says(6, NO_PLACE, WordsEdgesTest::digitOfNoWord);
    edges.says(6, NO_PLACE, WordsEdgesTest::digitAtNoPlace);
    edges.says(7, "A digit becomes another one.", WordsEdgesTest::setEachPlace);
    edges.says(7, "whether it is 1 then", WordsEdgesTest::setAtTheEnds);
    edges.says(7, "Returns the digit that it was.", WordsEdgesTest::setToWhatItIs);
    edges.says(7, NO_PLACE, WordsEdgesTest::setOfNoWord);
    edges.says(7, NO_PLACE, WordsEdgesTest::setAtNoPlace);
    edges.says(8, "0 how many ONES", WordsEdgesTest::howManyOnes);
    edges.says(8, "1 how many PLACES are above the greatest ONE (SIZE of an EMPTY one)", WordsEdgesTest::howManyAbove);
    edges.says(8, "2 how many below the least one (likewise)", WordsEdgesTest::howManyBelow);
    edges.says(8, "3 DEGREE", WordsEdgesTest::degree);
    edges.says(8, "4 the least ONE (NONE without)", WordsEdgesTest::leastOne);
    edges.says(8, "5 -1, 0 or 1, as its SIGNED number is below 0, 0, or above", WordsEdgesTest::signOfIt);
    edges.says(8, "6 its digits at the PLACES 0 to 31 as the SIGNED number of a WORD of 32",
        WordsEdgesTest::lowerDigits);
    edges.says(8, "7 of a LONG those at 32 to 63 likewise (of a SHORT 0)", WordsEdgesTest::higherDigits);
    edges.says(8, "8 of a LONG the xor of both (of a SHORT as 6)", WordsEdgesTest::xorOfBoth);
    edges.says(8, "9 the least number from 1 on by which it is rotated to itself", WordsEdgesTest::rotatedToItself);
    edges.says(8, "Returns that.", WordsEdgesTest::ofWordChangesNothing);
    edges.says(8, NO_WORD, WordsEdgesTest::ofNoWord);
    edges.says(8, NO_WHAT, WordsEdgesTest::ofWordWithoutSense);
    edges.end(1, 8);
  }

  private static void aNewObject() {
    Bitwords x = new Bitwords();
    for (boolean isLong : Edges.KINDS) {
      for (int k = 0; k < 4; k++) {
        edges.due("ONES of " + Edges.nameOf(isLong) + " " + k, x.ofWord(isLong, k, 0), 0);
        edges.due("digits of " + Edges.nameOf(isLong) + " " + k, x.text(isLong, k, 0), "0");
      }
    }
    edges.due("ONES of all", x.house(3), 0);
  }

  // ---- 2 put

  /** From each of the words to each other one. */
  private static void putOverOthers() {
    for (boolean isLong : Edges.KINDS) {
      long[] words = {0, 1, Edges.top(isLong), 0x5555555555555555L & Edges.all(isLong), Edges.all(isLong)};
      for (long before : words) {
        for (long then : words) {
          Bitwords x = Edges.of(isLong, before);
          String call = Long.toHexString(then) + " over " + Long.toHexString(before);
          int answer = x.put(isLong, 0, (int) (then >>> 32), (int) then);
          edges.makes(call, x, isLong, answer, Edges.onesOf(then), then);
        }
      }
    }
  }

  private static void putHigh() {
    duePut(0, 0);
    duePut(1, 0x0000000100000000L);
    duePut(Edges.MAX, 0x7fffffff00000000L);
    duePut(Edges.MIN, 0x8000000000000000L);
    duePut(-1, 0xffffffff00000000L);
  }

  private static void duePut(int high, long then) {
    Bitwords x = Edges.of(true, 0x10000000fL);
    edges.makes("put of high " + high, x, true, x.put(true, 0, high, 0), Edges.onesOf(then), then);
  }

  private static void putHighOfAShort() {
    for (int high : new int[] {0, 1, -1, Edges.MIN, Edges.MAX}) {
      Bitwords x = Edges.of(false, 6);
      edges.makes("put of high " + high + ", low 0", x, false, x.put(false, 0, high, 0), 0, 0);
      edges.makes("put of high " + high + ", low -1", x, false, x.put(false, 0, high, -1), 32, 0xffffffffL);
      edges.due("its own higher digits", x.ofWord(false, 0, 7), 0);
      edges.due("ONES of all", x.house(3), 32);
    }
  }

  private static void putLow() {
    int[] low = {0, 1, Edges.MAX, Edges.MIN, -1};
    long[] then = {0, 1, 0x7fffffff, 0x80000000L, 0xffffffffL};
    for (boolean isLong : Edges.KINDS) {
      for (int i = 0; i < low.length; i++) {
        Bitwords x = Edges.of(isLong, -1);
        int answer = x.put(isLong, 0, 0, low[i]);
        edges.makes("put of low " + low[i], x, isLong, answer, Edges.onesOf(then[i]), then[i]);
      }
    }
  }

  private static void putEmptyAndAll() {
    for (boolean isLong : Edges.KINDS) {
      Bitwords x = Edges.of(isLong, 6);
      edges.makes("put of all", x, isLong, x.put(isLong, 0, -1, -1), Edges.sizeOf(isLong), Edges.all(isLong));
      edges.makes("put of none", x, isLong, x.put(isLong, 0, 0, 0), 0, 0);
    }
  }

  private static void putOfNoWord() {
    edges.wordsEnd((x, isLong, k) -> x.put(isLong, k, 3, 3));
  }

  // ---- 3 copy

  private static void copyOfEmptyAndAll() {
    for (boolean isLong : Edges.KINDS) {
      long all = Edges.all(isLong);
      Bitwords x = Edges.of(isLong, 6, 0, 0, all);
      edges.makes("copy of all", x, isLong, x.copy(isLong, 0, 3), Edges.sizeOf(isLong), all);
      edges.makes("copy of an empty one", x, isLong, x.copy(isLong, 0, 1), 0, 0);
      edges.due("the other one stays", Check.hex(x, isLong, 3), Long.toHexString(all));
      edges.due("the other kind stays", x.ofWord(!isLong, 0, 0), 0);
    }
  }

  private static void copyOfItself() {
    for (boolean isLong : Edges.KINDS) {
      Bitwords x = Edges.of(isLong, Edges.top(isLong) | 5);
      edges.makes("copy of itself", x, isLong, x.copy(isLong, 0, 0), 3, Edges.top(isLong) | 5);
    }
  }

  private static void copyOfNoWord() {
    edges.wordsEnd((x, isLong, k) -> x.copy(isLong, k, 0));
  }

  private static void copyFromNoWord() {
    edges.wordsEnd((x, isLong, k) -> x.copy(isLong, 0, k));
  }

  // ---- 4 widen

  private static void widenEnds() {
    for (int p = 0; p < 31; p++) {
      dueWidened(1L << p, false, 1L << p);
      dueWidened(1L << p, true, 1L << p);
    }
    dueWidened(1L << 31, false, 1L << 31);
  }

  private static void widenAroundTheSign() {
    dueWidened(0x7fffffff, false, 0x7fffffff);
    dueWidened(0x7fffffff, true, 0x7fffffff);
    dueWidened(0x80000000L, false, 0x80000000L);
    dueWidened(0x80000000L, true, 0xffffffff80000000L);
  }

  private static void widenOfEmptyAndAll() {
    dueWidened(0, false, 0);
    dueWidened(0, true, 0);
    dueWidened(0xffffffffL, false, 0xffffffffL);
    dueWidened(0xffffffffL, true, -1);
  }

  private static void dueWidened(long from, boolean isSigned, long then) {
    for (long before : new long[] {0, -1}) {
      Bitwords x = Edges.of(false, from);
      Check.putLong(x, 0, before);
      String call = "widen of " + Long.toHexString(from) + ", " + isSigned;
      edges.makes(call, x, true, x.widen(0, 0, isSigned), Edges.onesOf(then), then);
      edges.due("the SHORT stays", Check.hex(x, false, 0), Long.toHexString(from));
    }
  }

  private static void widenOfNoLong() {
    edges.wordsEnd((x, isLong, k) -> x.widen(k, 0, isLong));
  }

  private static void widenFromNoShort() {
    edges.wordsEnd((x, isLong, k) -> x.widen(0, k, isLong));
  }

  // ---- 5 narrow

  private static void narrowEnds() {
    for (int p = 0; p < 32; p++) {
      dueNarrowed(1L << p, 1L << p, 0);
      dueNarrowed(1L << (p + 32), 0, 1L << p);
    }
    dueNarrowed(1L, 1, 0);
    dueNarrowed(1L << 31, 0x80000000L, 0);
    dueNarrowed(1L << 32, 0, 1);
    dueNarrowed(1L << 63, 0, 0x80000000L);
  }

  private static void narrowOfEmptyAndAll() {
    dueNarrowed(0, 0, 0);
    dueNarrowed(-1, 0xffffffffL, 0xffffffffL);
  }

  private static void dueNarrowed(long from, long low, long high) {
    for (int before : new int[] {0, -1}) {
      Bitwords x = Edges.of(true, from);
      String call = "narrow of " + Long.toHexString(from);
      Check.putShort(x, 0, before);
      edges.makes(call + ", 0 to 31", x, false, x.narrow(0, 0, false), Edges.onesOf(low), low);
      Check.putShort(x, 0, before);
      edges.makes(call + ", 32 to 63", x, false, x.narrow(0, 0, true), Edges.onesOf(high), high);
      edges.due("the LONG stays", Check.hex(x, true, 0), Long.toHexString(from));
    }
  }

  private static void narrowOfNoShort() {
    edges.wordsEnd((x, isLong, k) -> x.narrow(k, 0, isLong));
  }

  private static void narrowFromNoLong() {
    edges.wordsEnd((x, isLong, k) -> x.narrow(0, k, isLong));
  }

  // ---- 6 digit, 7 set

  private static void digitAtTheEnds() {
    for (boolean isLong : Edges.KINDS) {
      int last = Edges.sizeOf(isLong) - 1;
      Bitwords x = Edges.of(isLong, 1, Edges.top(isLong), 0, Edges.all(isLong));
      int[] atFirst = {1, 0, 0, 1};
      int[] atLast = {0, 1, 0, 1};
      for (int k = 0; k < 4; k++) {
        edges.due(Edges.nameOf(isLong) + " " + k + " at 0", x.digit(isLong, k, 0), atFirst[k]);
        edges.due(Edges.nameOf(isLong) + " " + k + " at " + last, x.digit(isLong, k, last), atLast[k]);
      }
    }
  }

  private static void digitOfNoWord() {
    edges.wordsEnd((x, isLong, k) -> x.digit(isLong, k, 0));
    edges.wordsEnd((x, isLong, k) -> x.digit(isLong, k, 31));
  }

  private static void digitAtNoPlace() {
    edges.numbersEnd(0, 63, Check.INDEX, (x, place) -> x.digit(true, 2, place));
    edges.numbersEnd(0, 31, Check.INDEX, (x, place) -> x.digit(false, 2, place));
  }

  /** Each digit to each of both, with the digits beside it all 0, and all 1. */
  private static void setEachPlace() {
    for (boolean isLong : Edges.KINDS) {
      for (int p = 0; p < Edges.sizeOf(isLong); p++) {
        long all = Edges.all(isLong);
        long one = 1L << p;
        Bitwords x = new Bitwords();
        edges.makes("0 to 1 at " + p, x, isLong, x.set(isLong, 0, p, true), 0, one);
        edges.makes("1 to 0 at " + p, x, isLong, x.set(isLong, 0, p, false), 1, 0);
        Bitwords y = Edges.of(isLong, all);
        edges.makes("1 to 0 among all at " + p, y, isLong, y.set(isLong, 0, p, false), 1, all ^ one);
        edges.makes("0 to 1 among all at " + p, y, isLong, y.set(isLong, 0, p, true), 0, all);
      }
    }
  }

  private static void setAtTheEnds() {
    for (boolean isLong : Edges.KINDS) {
      int last = Edges.sizeOf(isLong) - 1;
      long top = Edges.top(isLong);
      long all = Edges.all(isLong);
      Bitwords x = new Bitwords();
      edges.makes("set at 0 to 1", x, isLong, x.set(isLong, 0, 0, true), 0, 1);
      edges.makes("set at the last to 1", x, isLong, x.set(isLong, 0, last, true), 0, top | 1);
      edges.makes("set at 0 to 0", x, isLong, x.set(isLong, 0, 0, false), 1, top);
      edges.makes("set at the last to 0", x, isLong, x.set(isLong, 0, last, false), 1, 0);
      Bitwords y = Edges.of(isLong, all);
      edges.makes("set of all at the last to 0", y, isLong, y.set(isLong, 0, last, false), 1, all ^ top);
      edges.makes("set of all at 0 to 0", y, isLong, y.set(isLong, 0, 0, false), 1, all ^ top ^ 1);
    }
  }

  private static void setToWhatItIs() {
    for (boolean isLong : Edges.KINDS) {
      int last = Edges.sizeOf(isLong) - 1;
      Bitwords x = Edges.of(isLong, Edges.top(isLong));
      edges.makes("set to 1 again", x, isLong, x.set(isLong, 0, last, true), 1, Edges.top(isLong));
      edges.makes("set to 0 again", x, isLong, x.set(isLong, 0, 0, false), 0, Edges.top(isLong));
    }
  }

  private static void setOfNoWord() {
    edges.wordsEnd((x, isLong, k) -> x.set(isLong, k, 0, false));
    edges.wordsEnd((x, isLong, k) -> x.set(isLong, k, 31, true));
  }

  private static void setAtNoPlace() {
    for (boolean isOne : new boolean[] {true, false}) {
      edges.numbersEnd(0, 63, Check.INDEX, (x, place) -> x.set(true, 0, place, isOne));
      edges.numbersEnd(0, 31, Check.INDEX, (x, place) -> x.set(false, 0, place, isOne));
    }
  }

  // ---- 8 ofWord

  private static void told(boolean isLong, long w, int what, int want) {
    Bitwords x = Edges.of(isLong, w);
    edges.due(Edges.nameOf(isLong) + " " + Long.toHexString(w), x.ofWord(isLong, 0, what), want);
  }

  /** What is told of an empty word, of 1, of the one with the ONE at SIZE - 1 alone, and of all ONES. */
  private static void toldOfFour(int what, int[] ofLongs, int[] ofShorts) {
    for (boolean isLong : Edges.KINDS) {
      long[] words = {0, 1, Edges.top(isLong), Edges.all(isLong)};
      for (int i = 0; i < words.length; i++) {
        told(isLong, words[i], what, isLong ? ofLongs[i] : ofShorts[i]);
      }
    }
  }

  private static void howManyOnes() {
    toldOfFour(0, new int[] {0, 1, 1, 64}, new int[] {0, 1, 1, 32});
  }

  private static void howManyAbove() {
    toldOfFour(1, new int[] {64, 63, 0, 0}, new int[] {32, 31, 0, 0});
    told(true, 1L << 31, 1, 32);
    told(true, 1L << 32, 1, 31);
  }

  private static void howManyBelow() {
    toldOfFour(2, new int[] {64, 0, 63, 0}, new int[] {32, 0, 31, 0});
    told(true, -1L << 31, 2, 31);
    told(true, -1L << 32, 2, 32);
  }

  private static void degree() {
    toldOfFour(3, new int[] {-1, 0, 63, 63}, new int[] {-1, 0, 31, 31});
    told(true, Long.MAX_VALUE, 3, 62);
    told(false, Edges.MAX, 3, 30);
  }

  private static void leastOne() {
    toldOfFour(4, new int[] {-1, 0, 63, 0}, new int[] {-1, 0, 31, 0});
    told(true, -2, 4, 1);
    told(false, 0xfffffffeL, 4, 1);
  }

  private static void signOfIt() {
    toldOfFour(5, new int[] {0, 1, -1, -1}, new int[] {0, 1, -1, -1});
    told(true, Long.MAX_VALUE, 5, 1);
    told(true, 0x80000000L, 5, 1);
    told(true, 0xffffffffL, 5, 1);
    told(false, Edges.MAX, 5, 1);
  }

  private static void lowerDigits() {
    toldOfFour(6, new int[] {0, 1, 0, -1}, new int[] {0, 1, Edges.MIN, -1});
    told(true, 0x7fffffffL, 6, Edges.MAX);
    told(true, 0x80000000L, 6, Edges.MIN);
    told(true, 0x100000000L, 6, 0);
    told(false, 0x7fffffffL, 6, Edges.MAX);
  }

  private static void higherDigits() {
    toldOfFour(7, new int[] {0, 0, Edges.MIN, -1}, new int[] {0, 0, 0, 0});
    told(true, Long.MAX_VALUE, 7, Edges.MAX);
    told(true, 0xffffffffL, 7, 0);
    told(true, 0x100000000L, 7, 1);
  }

  private static void xorOfBoth() {
    toldOfFour(8, new int[] {0, 1, Edges.MIN, 0}, new int[] {0, 1, Edges.MIN, -1});
    told(true, 0x8000000080000000L, 8, 0);
    told(true, 0x00000000ffffffffL, 8, -1);
    told(true, 0xffffffff00000000L, 8, -1);
    told(true, 0x7fffffff80000000L, 8, -1);
  }

  private static void rotatedToItself() {
    toldOfFour(9, new int[] {1, 64, 64, 1}, new int[] {1, 32, 32, 1});
    told(true, 0x5555555555555555L, 9, 2);
    told(true, 0x0000000100000001L, 9, 32);
    told(true, 0x0000000100000003L, 9, 64);
    told(false, 0xaaaaaaaaL, 9, 2);
    told(false, 0x00010001L, 9, 16);
    told(false, 0x00010003L, 9, 32);
  }

  /** Nor does what was told before it. */
  private static void ofWordChangesNothing() {
    for (boolean isLong : Edges.KINDS) {
      Bitwords x = Edges.busy();
      String before = Check.state(x);
      for (int i = 0; i < 80; i++) {
        int k = i / 10 % 4;
        edges.due("what " + i % 10 + " twice", x.ofWord(isLong, k, i % 10), Edges.busy().ofWord(isLong, k, i % 10));
      }
      edges.due("what stands then", Check.state(x), before);
    }
  }

  private static void ofNoWord() {
    for (int what = 0; what < 10; what++) {
      int any = what;
      edges.wordsEnd((x, isLong, k) -> x.ofWord(isLong, k, any));
    }
    for (int wrong : new int[] {-1, 10}) {
      Bitwords x = Edges.busy();
      edges.fails("ahead of what " + wrong, x, Check.INDEX, () -> x.ofWord(true, 4, wrong));
      edges.fails("ahead of what " + wrong, x, Check.INDEX, () -> x.ofWord(false, -1, wrong));
    }
  }

  private static void ofWordWithoutSense() {
    for (boolean isLong : Edges.KINDS) {
      edges.numbersEnd(0, 9, Check.ARGUMENT, (x, what) -> x.ofWord(isLong, 3, what));
    }
  }
}
