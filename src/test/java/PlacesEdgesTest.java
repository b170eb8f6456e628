/** Promises 17 to 27, sentence by sentence, with the boundaries of each. */
final class PlacesEdgesTest {
  private static final String NO_WORD = "Throws `IndexOutOfBoundsException` if there is no such WORD";
  private static final String NO_WORDS = "Throws `IndexOutOfBoundsException` if there is no such WORD (both)";
  private static final String NO_LONG = "Throws `IndexOutOfBoundsException` if there is no such LONG, or SHORT (both)";
  private static final String NO_SHORT = "Throws `IndexOutOfBoundsException` if there is no such SHORT, or LONG";
  private static final String NO_SHIFT =
      "Throws `IllegalArgumentException` if by is not 0 to SIZE - 1, or how not 0 to 2";
  private static final String NO_WIDTH =
      "Throws `IllegalArgumentException` if width is not 0 to 5 (of a SHORT 0 to 4)";
  private static final String TELLS_LEAST = "Returns its least ONE then, NONE without.";
  private static final int[] FAR = {
    Edges.MIN, Edges.MIN + 1, Edges.MIN + 31, Edges.MIN + 32, Edges.MAX - 32, Edges.MAX - 31, Edges.MAX - 1, Edges.MAX
  };
  private static final Edges edges = new Edges();

  public static void main(String[] args) {
    edges.says(17, "A WORD is turned round: what is at p comes to SIZE - 1 - p.", PlacesEdgesTest::reverseEnds);
    edges.says(17, TELLS_LEAST, PlacesEdgesTest::reverseOfEmptyAndAll);
    edges.says(17, NO_WORD, PlacesEdgesTest::reverseOfNoWord);
    edges.says(18, "The bytes of a WORD (PLACES 0 to 7, 8 to 15, and so on)", PlacesEdgesTest::reverseBytesEnds);
    edges.says(18, "come in the sequence turned round, each as it is", PlacesEdgesTest::reverseBytesOfEach);
    edges.says(18, TELLS_LEAST, PlacesEdgesTest::reverseBytesOfEmptyAndAll);
    edges.says(18, NO_WORD, PlacesEdgesTest::reverseBytesOfNoWord);
    edges.says(19, "A WORD is rotated: what is at p comes to the rest of p + by by SIZE (from 0 on).",
        PlacesEdgesTest::rotateEnds);
    edges.says(19, "by how much (any number)", PlacesEdgesTest::rotateByFarNumbers);
    edges.says(19, TELLS_LEAST, PlacesEdgesTest::rotateOfEmptyAndAll);
    edges.says(19, NO_WORD, PlacesEdgesTest::rotateOfNoWord);
    edges.says(20, "Returns the least number from 0 on by which a is rotated to b", PlacesEdgesTest::turnsToEnds);
    edges.says(20, "NONE if there is none.", PlacesEdgesTest::turnsToNone);
    edges.says(20, NO_WORDS, PlacesEdgesTest::turnsToOfNoWord);
    edges.says(20, NO_WORDS, PlacesEdgesTest::turnsToNoWord);
    edges.says(21, "A WORD is shifted; what comes beyond its PLACES is gone.", PlacesEdgesTest::shiftBeyond);
    edges.says(21, "0 to higher PLACES (0 comes in)", PlacesEdgesTest::shiftUp);
    edges.says(21, "1 to lower ones (0 comes in)", PlacesEdgesTest::shiftDown);
    edges.says(21, "2 to lower ones (each time the digit comes in that was at SIZE - 1)",
        PlacesEdgesTest::shiftDownWithTheSign);
    edges.says(21, "Returns how many ONES.", PlacesEdgesTest::shiftOfAllByEach);
    edges.says(21, NO_WORD, PlacesEdgesTest::shiftOfNoWord);
    edges.says(21, NO_SHIFT, PlacesEdgesTest::shiftByTooMuch);
    edges.says(21, NO_SHIFT, PlacesEdgesTest::shiftWithoutSense);
    edges.says(22, "SWAP.", PlacesEdgesTest::swapEnds);
    edges.says(22, TELLS_LEAST, PlacesEdgesTest::swapOfEmptyAndAll);
    edges.says(22, NO_WORD, PlacesEdgesTest::swapOfNoWord);
    edges.says(22, NO_WIDTH, PlacesEdgesTest::swapByNoWidth);
    edges.says(23, "SHUFFLES a WORD, or shuffles it back.", PlacesEdgesTest::shuffleEnds);
    edges.says(23, TELLS_LEAST, PlacesEdgesTest::shuffleOfEmptyAndAll);
    edges.says(23, NO_WORD, PlacesEdgesTest::shuffleOfNoWord);
    edges.says(24,
        "A LONG is woven of two SHORTS: at 2 * p what the one has at p, at 2 * p + 1 what the other one has there",
        PlacesEdgesTest::weaveEnds);
    edges.says(24, "Returns how many ONES.", PlacesEdgesTest::weaveOfEmptyAndAll);
    edges.says(24, NO_LONG, PlacesEdgesTest::weaveOfNoLong);
    edges.says(24, NO_LONG, PlacesEdgesTest::weaveOfNoEvenShort);
    edges.says(24, NO_LONG, PlacesEdgesTest::weaveOfNoOddShort);
    edges.says(25, "A SHORT gets at p what a LONG has at 2 * p, or at 2 * p + 1.", PlacesEdgesTest::unweaveEnds);
    edges.says(25, "Returns how many ONES.", PlacesEdgesTest::unweaveOfEmptyAndAll);
    edges.says(25, NO_SHORT, PlacesEdgesTest::unweaveOfNoShort);
    edges.says(25, NO_SHORT, PlacesEdgesTest::unweaveFromNoLong);
    edges.says(26, "A WORD becomes its GRAY", PlacesEdgesTest::grayEnds);
    edges.says(26, "or (back) that of which it is the GRAY", PlacesEdgesTest::grayBackEnds);
    edges.says(26, "Returns how many ONES.", PlacesEdgesTest::grayTellsOnes);
    edges.says(26, NO_WORD, PlacesEdgesTest::grayOfNoWord);
    edges.says(27, "A WORD goes a STEP.", PlacesEdgesTest::stepFromTheGreatest);
    edges.says(27, "Returns the PLACE at which it changed.", PlacesEdgesTest::stepEnds);
    edges.says(27, NO_WORD, PlacesEdgesTest::stepOfNoWord);
    edges.end(17, 27);
  }

  // ---- 17 reverse, 18 reverseBytes

  private static void reverseEnds() {
    for (boolean isLong : Edges.KINDS) {
      int last = Edges.sizeOf(isLong) - 1;
      for (int p = 0; p <= last; p++) {
        Bitwords x = Edges.of(isLong, 1L << p);
        edges.makes("of that at " + p, x, isLong, x.reverse(isLong, 0), last - p, 1L << (last - p));
      }
    }
  }

  private static void reverseOfEmptyAndAll() {
    for (boolean isLong : Edges.KINDS) {
      Bitwords x = new Bitwords();
      edges.makes("of an empty one", x, isLong, x.reverse(isLong, 0), Edges.NONE, 0);
      Bitwords y = Edges.of(isLong, Edges.all(isLong));
      edges.makes("of all", y, isLong, y.reverse(isLong, 0), 0, Edges.all(isLong));
      edges.due("NONE is not REFUSED", x.house(0), 0);
    }
  }

  private static void reverseOfNoWord() {
    edges.wordsEnd((x, isLong, k) -> x.reverse(isLong, k));
  }

  private static void reverseBytesEnds() {
    for (boolean isLong : Edges.KINDS) {
      int size = Edges.sizeOf(isLong);
      int[] from = {0, 7, 8, 15, size / 2 - 1, size / 2, size - 9, size - 8, size - 1};
      int[] to = {size - 8, size - 1, size - 16, size - 9, size / 2 + 7, size / 2 - 8, 15, 0, 7};
      for (int i = 0; i < from.length; i++) {
        Bitwords x = Edges.of(isLong, 1L << from[i]);
        edges.makes("of that at " + from[i], x, isLong, x.reverseBytes(isLong, 0), to[i], 1L << to[i]);
      }
    }
  }

  private static void reverseBytesOfEach() {
    for (boolean isLong : Edges.KINDS) {
      int size = Edges.sizeOf(isLong);
      for (int p = 0; p < size; p++) {
        int to = size - 8 - p / 8 * 8 + p % 8;
        Bitwords x = Edges.of(isLong, 1L << p);
        edges.makes("of that at " + p, x, isLong, x.reverseBytes(isLong, 0), to, 1L << to);
      }
    }
    Bitwords x = Edges.of(true, 0x0123456789abcdefL);
    edges.makes("of eight", x, true, x.reverseBytes(true, 0), 0, 0xefcdab8967452301L);
    Bitwords y = Edges.of(false, 0x12345678);
    edges.makes("of four", y, false, y.reverseBytes(false, 0), 1, 0x78563412);
  }

  private static void reverseBytesOfEmptyAndAll() {
    for (boolean isLong : Edges.KINDS) {
      Bitwords x = new Bitwords();
      edges.makes("of an empty one", x, isLong, x.reverseBytes(isLong, 0), Edges.NONE, 0);
      Bitwords y = Edges.of(isLong, Edges.all(isLong));
      edges.makes("of all", y, isLong, y.reverseBytes(isLong, 0), 0, Edges.all(isLong));
    }
  }

  private static void reverseBytesOfNoWord() {
    edges.wordsEnd((x, isLong, k) -> x.reverseBytes(isLong, k));
  }

  // ---- 19 rotate

  private static void rotateEnds() {
    for (boolean isLong : Edges.KINDS) {
      int size = Edges.sizeOf(isLong);
      int[] by = {0, 1, -1, size - 1, 1 - size, size, -size, size + 1, -size - 1, 2 * size, -2 * size};
      int[] fromFirst = {0, 1, size - 1, size - 1, 1, 0, 0, 1, size - 1, 0, 0};
      int[] fromLast = {size - 1, 0, size - 2, size - 2, 0, size - 1, size - 1, 0, size - 2, size - 1, size - 1};
      for (int i = 0; i < by.length; i++) {
        dueRotated(isLong, 0, by[i], fromFirst[i]);
        dueRotated(isLong, size - 1, by[i], fromLast[i]);
      }
    }
  }

  /** 2^31 is a multiple of both SIZES, so the least of all numbers turns nothing, and the greatest as -1 does. */
  private static void rotateByFarNumbers() {
    for (boolean isLong : Edges.KINDS) {
      int last = Edges.sizeOf(isLong) - 1;
      for (int by : FAR) {
        for (int p : new int[] {0, 1, last}) {
          dueRotated(isLong, p, by, (int) Math.floorMod((long) p + by, (long) last + 1));
        }
      }
      dueRotated(isLong, last, Edges.MIN, last);
      dueRotated(isLong, 0, Edges.MAX, last);
      dueRotated(isLong, last, Edges.MAX, last - 1);
    }
  }

  private static void dueRotated(boolean isLong, int p, int by, int to) {
    Bitwords x = Edges.of(isLong, 1L << p);
    edges.makes("of that at " + p + " by " + by, x, isLong, x.rotate(isLong, 0, by), to, 1L << to);
  }

  private static void rotateOfEmptyAndAll() {
    for (boolean isLong : Edges.KINDS) {
      for (int by : new int[] {0, 1, -1, 31, 32, 33, 63, 64, Edges.MIN, Edges.MAX}) {
        Bitwords x = new Bitwords();
        edges.makes("of an empty one by " + by, x, isLong, x.rotate(isLong, 0, by), Edges.NONE, 0);
        Bitwords y = Edges.of(isLong, Edges.all(isLong));
        edges.makes("of all by " + by, y, isLong, y.rotate(isLong, 0, by), 0, Edges.all(isLong));
      }
    }
  }

  private static void rotateOfNoWord() {
    edges.wordsEnd((x, isLong, k) -> x.rotate(isLong, k, 1));
    edges.wordsEnd((x, isLong, k) -> x.rotate(isLong, k, 0));
  }

  // ---- 20 turnsTo

  private static void turnsToEnds() {
    for (boolean isLong : Edges.KINDS) {
      int size = Edges.sizeOf(isLong);
      Bitwords x = Edges.of(isLong, 1, Edges.top(isLong), 2, Edges.all(isLong));
      edges.due(size + ": to itself", x.turnsTo(isLong, 0, 0), 0);
      edges.due(size + ": all to itself", x.turnsTo(isLong, 3, 3), 0);
      edges.due(size + ": by 1", x.turnsTo(isLong, 0, 2), 1);
      edges.due(size + ": from the last to the first", x.turnsTo(isLong, 1, 0), 1);
      edges.due(size + ": by the most", x.turnsTo(isLong, 0, 1), size - 1);
      edges.due(size + ": by the most", x.turnsTo(isLong, 2, 0), size - 1);
      Bitwords y = Edges.of(isLong, 0, 0, 0x5555555555555555L, 0xaaaaaaaaaaaaaaaaL);
      edges.due(size + ": empty to empty", y.turnsTo(isLong, 0, 1), 0);
      edges.due(size + ": the least of many", y.turnsTo(isLong, 2, 3), 1);
    }
  }

  private static void turnsToNone() {
    for (boolean isLong : Edges.KINDS) {
      Bitwords x = Edges.of(isLong, 0, 1, 3, 5);
      for (int i = 0; i < 16; i++) {
        int want = i / 4 == i % 4 ? 0 : Edges.NONE;
        edges.due(Edges.nameOf(isLong) + " " + i / 4 + " to " + i % 4, x.turnsTo(isLong, i / 4, i % 4), want);
      }
      edges.due("which is not REFUSED", x.house(0), 0);
    }
  }

  private static void turnsToOfNoWord() {
    edges.wordsEnd((x, isLong, k) -> x.turnsTo(isLong, k, 0));
  }

  private static void turnsToNoWord() {
    edges.wordsEnd((x, isLong, k) -> x.turnsTo(isLong, 0, k));
  }

  // ---- 21 shift

  private static void dueShifted(boolean isLong, long w, int by, int how, long then) {
    Bitwords x = Edges.of(isLong, w);
    String call = Long.toHexString(w) + " by " + by + ", how " + how;
    edges.makes(call, x, isLong, x.shift(isLong, 0, by, how), Edges.onesOf(then), then);
  }

  private static void shiftBeyond() {
    for (boolean isLong : Edges.KINDS) {
      long top = Edges.top(isLong);
      int last = Edges.sizeOf(isLong) - 1;
      dueShifted(isLong, top, 1, 0, 0);
      dueShifted(isLong, top >>> 1, 1, 0, top);
      dueShifted(isLong, 2, last, 0, 0);
      dueShifted(isLong, 1, 1, 1, 0);
      dueShifted(isLong, 2, 1, 1, 1);
      dueShifted(isLong, top >>> 1, last, 1, 0);
      dueShifted(isLong, 1, 1, 2, 0);
      dueShifted(isLong, 2, 1, 2, 1);
      dueShifted(isLong, top >>> 1, last, 2, 0);
    }
  }

  private static void shiftUp() {
    for (boolean isLong : Edges.KINDS) {
      long all = Edges.all(isLong);
      int last = Edges.sizeOf(isLong) - 1;
      dueShifted(isLong, all, 0, 0, all);
      dueShifted(isLong, all, 1, 0, all - 1);
      dueShifted(isLong, all, last, 0, Edges.top(isLong));
      dueShifted(isLong, 1, last, 0, Edges.top(isLong));
      dueShifted(isLong, 0, last, 0, 0);
    }
  }

  private static void shiftDown() {
    for (boolean isLong : Edges.KINDS) {
      long all = Edges.all(isLong);
      int last = Edges.sizeOf(isLong) - 1;
      dueShifted(isLong, all, 0, 1, all);
      dueShifted(isLong, all, 1, 1, all >>> 1);
      dueShifted(isLong, all, last, 1, 1);
      dueShifted(isLong, Edges.top(isLong), last, 1, 1);
      dueShifted(isLong, 0, last, 1, 0);
    }
  }

  private static void shiftDownWithTheSign() {
    for (boolean isLong : Edges.KINDS) {
      long all = Edges.all(isLong);
      long top = Edges.top(isLong);
      int last = Edges.sizeOf(isLong) - 1;
      dueShifted(isLong, top, 0, 2, top);
      dueShifted(isLong, top, 1, 2, top | (top >>> 1));
      dueShifted(isLong, top, last, 2, all);
      dueShifted(isLong, all, last, 2, all);
      dueShifted(isLong, all - top, 0, 2, all - top);
      dueShifted(isLong, all - top, 1, 2, (all - top) >>> 1);
      dueShifted(isLong, all - top, last, 2, 0);
      dueShifted(isLong, 0, last, 2, 0);
    }
  }

  private static void shiftOfAllByEach() {
    for (boolean isLong : Edges.KINDS) {
      long all = Edges.all(isLong);
      int size = Edges.sizeOf(isLong);
      for (int by = 0; by < size; by++) {
        dueShifted(isLong, all, by, 0, (all << by) & all);
        dueShifted(isLong, all, by, 1, all >>> by);
        dueShifted(isLong, all, by, 2, all);
        dueShifted(isLong, Edges.top(isLong), by, 2, (all << (size - 1 - by)) & all);
      }
    }
  }

  private static void shiftOfNoWord() {
    edges.wordsEnd((x, isLong, k) -> x.shift(isLong, k, 31, 2));
    Bitwords x = Edges.busy();
    edges.fails("ahead of by 64", x, Check.INDEX, () -> x.shift(true, 4, 64, 0));
    edges.fails("ahead of by -1", x, Check.INDEX, () -> x.shift(false, -1, -1, 0));
    edges.fails("ahead of how 3", x, Check.INDEX, () -> x.shift(false, 4, 0, 3));
  }

  private static void shiftByTooMuch() {
    for (int how = 0; how < 3; how++) {
      int any = how;
      edges.numbersEnd(0, 63, Check.ARGUMENT, (x, by) -> x.shift(true, 0, by, any));
      edges.numbersEnd(0, 31, Check.ARGUMENT, (x, by) -> x.shift(false, 0, by, any));
    }
  }

  private static void shiftWithoutSense() {
    for (boolean isLong : Edges.KINDS) {
      edges.numbersEnd(0, 2, Check.ARGUMENT, (x, how) -> x.shift(isLong, 0, 0, how));
      edges.numbersEnd(0, 2, Check.ARGUMENT, (x, how) -> x.shift(isLong, 0, Edges.sizeOf(isLong) - 1, how));
      Bitwords x = Edges.busy();
      edges.fails("both wrong", x, Check.ARGUMENT, () -> x.shift(isLong, 0, -1, 3));
    }
  }

  // ---- 22 swap

  /** The first PLACE goes up and the last one down; those beside the middle of 2^(b + 1) PLACES change over. */
  private static void swapEnds() {
    for (boolean isLong : Edges.KINDS) {
      int last = Edges.sizeOf(isLong) - 1;
      for (int width = 0; width < (isLong ? 6 : 5); width++) {
        int by = 1 << width;
        int[] from = {0, by - 1, by, 2 * by - 1, last - by, last};
        int[] to = {by, 2 * by - 1, 0, by - 1, last, last - by};
        for (int i = 0; i < from.length; i++) {
          Bitwords x = Edges.of(isLong, 1L << from[i]);
          String call = "of that at " + from[i] + " by " + width;
          edges.makes(call, x, isLong, x.swap(isLong, 0, width), to[i], 1L << to[i]);
        }
      }
    }
  }

  private static void swapOfEmptyAndAll() {
    for (boolean isLong : Edges.KINDS) {
      for (int width = 0; width < (isLong ? 6 : 5); width++) {
        Bitwords x = new Bitwords();
        edges.makes("of an empty one by " + width, x, isLong, x.swap(isLong, 0, width), Edges.NONE, 0);
        Bitwords y = Edges.of(isLong, Edges.all(isLong));
        edges.makes("of all by " + width, y, isLong, y.swap(isLong, 0, width), 0, Edges.all(isLong));
      }
    }
  }

  private static void swapOfNoWord() {
    edges.wordsEnd((x, isLong, k) -> x.swap(isLong, k, 0));
    edges.wordsEnd((x, isLong, k) -> x.swap(isLong, k, isLong ? 5 : 4));
    Bitwords x = Edges.busy();
    edges.fails("ahead of width 6", x, Check.INDEX, () -> x.swap(true, 4, 6));
    edges.fails("ahead of width -1", x, Check.INDEX, () -> x.swap(false, -1, -1));
  }

  private static void swapByNoWidth() {
    edges.numbersEnd(0, 5, Check.ARGUMENT, (x, width) -> x.swap(true, 0, width));
    edges.numbersEnd(0, 4, Check.ARGUMENT, (x, width) -> x.swap(false, 0, width));
  }

  // ---- 23 shuffle

  private static void shuffleEnds() {
    for (boolean isLong : Edges.KINDS) {
      int size = Edges.sizeOf(isLong);
      int half = size / 2;
      int[] from = {0, 1, half - 1, half, half + 1, size - 1};
      int[] to = {0, 2, size - 2, 1, 3, size - 1};
      for (int i = 0; i < from.length; i++) {
        Bitwords x = Edges.of(isLong, 1L << from[i]);
        edges.makes("of that at " + from[i], x, isLong, x.shuffle(isLong, 0, false), to[i], 1L << to[i]);
        Bitwords y = Edges.of(isLong, 1L << to[i]);
        edges.makes("back of that at " + to[i], y, isLong, y.shuffle(isLong, 0, true), from[i], 1L << from[i]);
      }
    }
  }

  private static void shuffleOfEmptyAndAll() {
    for (boolean isLong : Edges.KINDS) {
      for (boolean isBack : new boolean[] {false, true}) {
        Bitwords x = new Bitwords();
        edges.makes("of an empty one", x, isLong, x.shuffle(isLong, 0, isBack), Edges.NONE, 0);
        Bitwords y = Edges.of(isLong, Edges.all(isLong));
        edges.makes("of all", y, isLong, y.shuffle(isLong, 0, isBack), 0, Edges.all(isLong));
      }
    }
  }

  private static void shuffleOfNoWord() {
    edges.wordsEnd((x, isLong, k) -> x.shuffle(isLong, k, false));
    edges.wordsEnd((x, isLong, k) -> x.shuffle(isLong, k, true));
  }

  // ---- 24 weave, 25 unweave

  private static void dueWoven(long even, long odd, long then) {
    for (long before : new long[] {0, -1}) {
      Bitwords x = Edges.of(false, even, odd);
      Check.putLong(x, 0, before);
      String call = Long.toHexString(even) + " and " + Long.toHexString(odd);
      edges.makes(call, x, true, x.weave(0, 0, 1), Edges.onesOf(then), then);
    }
  }

  private static void weaveEnds() {
    dueWoven(1, 0, 1);
    dueWoven(0, 1, 2);
    dueWoven(1L << 15, 0, 1L << 30);
    dueWoven(0, 1L << 15, 1L << 31);
    dueWoven(1L << 16, 0, 1L << 32);
    dueWoven(0, 1L << 16, 1L << 33);
    dueWoven(1L << 31, 0, 1L << 62);
    dueWoven(0, 1L << 31, 1L << 63);
  }

  private static void weaveOfEmptyAndAll() {
    dueWoven(0, 0, 0);
    dueWoven(0xffffffffL, 0, 0x5555555555555555L);
    dueWoven(0, 0xffffffffL, 0xaaaaaaaaaaaaaaaaL);
    dueWoven(0xffffffffL, 0xffffffffL, -1);
    Bitwords x = Edges.of(false, 0x80000001L);
    edges.makes("of one twice", x, true, x.weave(0, 0, 0), 4, 0xc000000000000003L);
  }

  private static void weaveOfNoLong() {
    edges.wordsEnd((x, isLong, k) -> x.weave(k, 0, 3));
  }

  private static void weaveOfNoEvenShort() {
    edges.wordsEnd((x, isLong, k) -> x.weave(0, k, 3));
  }

  private static void weaveOfNoOddShort() {
    edges.wordsEnd((x, isLong, k) -> x.weave(0, 3, k));
  }

  private static void dueUnwoven(long from, long even, long odd) {
    for (int before : new int[] {0, -1}) {
      Bitwords x = Edges.of(true, from);
      String call = Long.toHexString(from);
      Check.putShort(x, 0, before);
      edges.makes(call + ", at 2 * p", x, false, x.unweave(0, 0, false), Edges.onesOf(even), even);
      Check.putShort(x, 0, before);
      edges.makes(call + ", at 2 * p + 1", x, false, x.unweave(0, 0, true), Edges.onesOf(odd), odd);
    }
  }

  private static void unweaveEnds() {
    dueUnwoven(1, 1, 0);
    dueUnwoven(2, 0, 1);
    dueUnwoven(1L << 30, 1L << 15, 0);
    dueUnwoven(1L << 31, 0, 1L << 15);
    dueUnwoven(1L << 32, 1L << 16, 0);
    dueUnwoven(1L << 33, 0, 1L << 16);
    dueUnwoven(1L << 62, 1L << 31, 0);
    dueUnwoven(1L << 63, 0, 1L << 31);
  }

  private static void unweaveOfEmptyAndAll() {
    dueUnwoven(0, 0, 0);
    dueUnwoven(-1, 0xffffffffL, 0xffffffffL);
    dueUnwoven(0x5555555555555555L, 0xffffffffL, 0);
    dueUnwoven(0xaaaaaaaaaaaaaaaaL, 0, 0xffffffffL);
  }

  private static void unweaveOfNoShort() {
    edges.wordsEnd((x, isLong, k) -> x.unweave(k, 0, isLong));
  }

  private static void unweaveFromNoLong() {
    edges.wordsEnd((x, isLong, k) -> x.unweave(0, k, isLong));
  }

  // ---- 26 gray, 27 step

  private static void dueGray(boolean isLong, boolean isBack, long w, long then) {
    Bitwords x = Edges.of(isLong, w);
    edges.makes("of " + Long.toHexString(w), x, isLong, x.gray(isLong, 0, isBack), Edges.onesOf(then), then);
  }

  private static void grayEnds() {
    for (boolean isLong : Edges.KINDS) {
      long top = Edges.top(isLong);
      long all = Edges.all(isLong);
      dueGray(isLong, false, 0, 0);
      dueGray(isLong, false, 1, 1);
      dueGray(isLong, false, 2, 3);
      dueGray(isLong, false, top, top | (top >>> 1));
      dueGray(isLong, false, all, top);
      dueGray(isLong, false, all - top, top >>> 1);
      dueGray(isLong, false, all - 1, top | 1);
    }
  }

  private static void grayBackEnds() {
    for (boolean isLong : Edges.KINDS) {
      long top = Edges.top(isLong);
      long all = Edges.all(isLong);
      dueGray(isLong, true, 0, 0);
      dueGray(isLong, true, 1, 1);
      dueGray(isLong, true, 3, 2);
      dueGray(isLong, true, top | (top >>> 1), top);
      dueGray(isLong, true, top, all);
      dueGray(isLong, true, top >>> 1, all - top);
      dueGray(isLong, true, all, 0xaaaaaaaaaaaaaaaaL & all);
    }
  }

  /** Of the n lowest ONES one is left, of the n highest ones there are two; and one makes n + 1 of itself, back. */
  private static void grayTellsOnes() {
    for (boolean isLong : Edges.KINDS) {
      int size = Edges.sizeOf(isLong);
      for (int n = 1; n < size; n++) {
        long lowest = (1L << n) - 1;
        dueGray(isLong, false, lowest, 1L << (n - 1));
        dueGray(isLong, false, lowest << (size - n), Edges.top(isLong) | 1L << (size - n - 1));
        dueGray(isLong, true, 1L << n, (2L << n) - 1);
      }
    }
  }

  private static void grayOfNoWord() {
    edges.wordsEnd((x, isLong, k) -> x.gray(isLong, k, false));
    edges.wordsEnd((x, isLong, k) -> x.gray(isLong, k, true));
  }

  /** The GRAY of the greatest number but one, of the greatest, and then again those of 0 and of 1. */
  private static void stepFromTheGreatest() {
    for (boolean isLong : Edges.KINDS) {
      long top = Edges.top(isLong);
      Bitwords x = Edges.of(isLong, top | 1);
      edges.makes("to the greatest", x, isLong, x.step(isLong, 0), 0, top);
      edges.makes("from the greatest", x, isLong, x.step(isLong, 0), Edges.sizeOf(isLong) - 1, 0);
      edges.makes("from 0", x, isLong, x.step(isLong, 0), 0, 1);
      edges.makes("from 1", x, isLong, x.step(isLong, 0), 1, 3);
    }
  }

  /** From 2^p - 1 to 2^p what changes is at p, for the first time; and always at 0, or above the least ONE. */
  private static void stepEnds() {
    for (boolean isLong : Edges.KINDS) {
      for (int p = 0; p < Edges.sizeOf(isLong); p++) {
        long from = p == 0 ? 0 : 1L << (p - 1);
        Bitwords x = Edges.of(isLong, from);
        edges.makes("from 2^" + p + " - 1", x, isLong, x.step(isLong, 0), p, from | (1L << p));
      }
      for (int p = 0; p < Edges.sizeOf(isLong) - 2; p++) {
        long from = 1L << p | Edges.top(isLong) | Edges.top(isLong) >>> 1;
        Bitwords x = Edges.of(isLong, from);
        edges.makes("least ONE at " + p, x, isLong, x.step(isLong, 0), p + 1, from ^ (2L << p));
      }
      Bitwords x = Edges.of(isLong, Edges.all(isLong));
      edges.makes("from all", x, isLong, x.step(isLong, 0), 0, Edges.all(isLong) - 1);
    }
  }

  private static void stepOfNoWord() {
    edges.wordsEnd((x, isLong, k) -> x.step(isLong, k));
  }
}
