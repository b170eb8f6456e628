import java.math.BigInteger;

/** Promises 42 to 50, sentence by sentence, with the boundaries of each. */
final class TextsEdgesTest {
  private static final String SIGNS = "0123456789abcdefghijklmnopqrstuvwxyz-+#";
  private static final String NO_WORD = "Throws `IndexOutOfBoundsException` if there is no such WORD";
  private static final String NO_BASE = "Throws `IllegalArgumentException` if base is not 2 to 36";
  private static final String NO_SIGN = "Throws `IllegalArgumentException` if one is not NONE to 38";
  private static final String TOO_LONG = "Throws `IllegalStateException` if it would be longer than 80";
  private static final String NOT_READ = "REFUSED if it can not be READ, or is no SIGNED number of such a WORD.";
  private static final String NOT_NUMBER = "REFUSED if it can not be READ so, or is 2^SIZE or more.";
  private static final String NOT_DECODED = "REFUSED if it is not so, or is no SIGNED number of such a WORD.";
  private static final Edges edges = new Edges();

  public static void main(String[] args) {
    edges.says(42, "Types behind the TEXT in HAND, one after the other.", TextsEdgesTest::typeInSequence);
    edges.says(42, "a sign, or NONE for none (likewise the others)", TextsEdgesTest::typeEachSign);
    edges.says(42, "Returns how long it is then.", TextsEdgesTest::typeNothing);
    edges.says(42, NO_SIGN, TextsEdgesTest::typeNoSign);
    edges.says(42, NO_SIGN, TextsEdgesTest::typeNoSignAndTooMuch);
    edges.says(42, TOO_LONG, TextsEdgesTest::typeTo80AndBeyond);
    edges.says(42, TOO_LONG, TextsEdgesTest::typeOneBeyondAtEachPlace);
    edges.says(43, "The TEXT in HAND becomes \"\".", TextsEdgesTest::noTextOfEachLength);
    edges.says(43, "Returns how long it was.", TextsEdgesTest::noTextEnds);
    edges.says(44, "Returns the TEXT in HAND.", TextsEdgesTest::handEnds);
    edges.says(45, "0 its NUMBER by the BASE 2, 1 by 8, 2 by 16, 3 by 10", TextsEdgesTest::textOfNumbers);
    edges.says(45, "4 its SIGNED number by 10", TextsEdgesTest::textOfSigned);
    edges.says(45, "Returns its digits, the greatest one first", TextsEdgesTest::textOfEachDigit);
    edges.says(45, "none that is 0 ahead of all others (\"0\" of 0)", TextsEdgesTest::textOfEmpty);
    edges.says(45, "\"-\" ahead of a SIGNED one below 0", TextsEdgesTest::textBelow0);
    edges.says(45, NO_WORD, TextsEdgesTest::textOfNoWord);
    edges.says(45, "Throws `IllegalArgumentException` if what is not 0 to 4", TextsEdgesTest::textWithoutSense);
    edges.says(46, "Returns its SIGNED number by that, written as text() tells.", TextsEdgesTest::textInEnds);
    edges.says(46, "a BASE", TextsEdgesTest::textInAroundTheBase);
    edges.says(46, NO_WORD, TextsEdgesTest::textInOfNoWord);
    edges.says(46, NO_BASE, TextsEdgesTest::textInNoBase);
    edges.says(47, "The TEXT in HAND becomes what textIn() tells.", TextsEdgesTest::carryOverAnother);
    edges.says(47, "Returns how long it is.", TextsEdgesTest::carryEnds);
    edges.says(47, NO_WORD, TextsEdgesTest::carryOfNoWord);
    edges.says(47, NO_BASE, TextsEdgesTest::carryByNoBase);
    edges.says(48, "A WORD becomes that with the SIGNED number that the TEXT in HAND is", TextsEdgesTest::readEnds);
    edges.says(48, "READ by a BASE", TextsEdgesTest::readAroundTheBase);
    edges.says(48, "Returns how many ONES", TextsEdgesTest::readTellsOnes);
    edges.says(48, NOT_READ, TextsEdgesTest::readNotSo);
    edges.says(48, NOT_READ, TextsEdgesTest::readBeyond);
    edges.says(48, NOT_READ, TextsEdgesTest::read80Signs);
    edges.says(48, NO_WORD, TextsEdgesTest::readOfNoWord);
    edges.says(48, NO_BASE, TextsEdgesTest::readByNoBase);
    edges.says(49, "A WORD becomes that with the NUMBER that the TEXT in HAND is", TextsEdgesTest::readNumberEnds);
    edges.says(49, "READ by the BASE 10", TextsEdgesTest::readNumberBy10);
    edges.says(49, "(which must not begin with \"-\"; \"+\" may stand there)", TextsEdgesTest::readNumberWithSign);
    edges.says(49, "Returns how many ONES", TextsEdgesTest::readNumberTellsOnes);
    edges.says(49, NOT_NUMBER, TextsEdgesTest::readNumberNotSo);
    edges.says(49, NOT_NUMBER, TextsEdgesTest::readNumberBeyond);
    edges.says(49, NOT_NUMBER, TextsEdgesTest::readNumber80Signs);
    edges.says(49, NO_WORD, TextsEdgesTest::readNumberOfNoWord);
    edges.says(50, "A WORD becomes that with the SIGNED number that the TEXT in HAND is so",
        TextsEdgesTest::decodeEachWay);
    edges.says(50, "it may begin with \"-\" or \"+\"", TextsEdgesTest::decodeWithSign);
    edges.says(50, "if then comes \"0x\" or \"#\", digits by the BASE 16 stand behind", TextsEdgesTest::decodeBy16);
    edges.says(50, "(no sign there)", TextsEdgesTest::decodeSignBehind);
    edges.says(50, "if a \"0\" with more behind it (that is no \"x\"), digits by 8 stand behind the \"0\"",
        TextsEdgesTest::decodeBy8);
    edges.says(50, "otherwise digits by 10", TextsEdgesTest::decodeBy10);
    edges.says(50, "one digit or more, and nothing else", TextsEdgesTest::decodeNothingElse);
    edges.says(50, "Returns how many ONES", TextsEdgesTest::decodeTellsOnes);
    edges.says(50, NOT_DECODED, TextsEdgesTest::decodeNotSo);
    edges.says(50, NOT_DECODED, TextsEdgesTest::decodeBeyond);
    edges.says(50, NOT_DECODED, TextsEdgesTest::decode80Signs);
    edges.says(50, NO_WORD, TextsEdgesTest::decodeOfNoWord);
    edges.end(42, 50);
  }

  private static Bitwords holding(String text) {
    return Check.type(new Bitwords(), text);
  }

  /** One sign at one of the six places, and none at the others. */
  private static int typeAt(Bitwords x, int at, int sign) {
    int[] s = {-1, -1, -1, -1, -1, -1};
    s[at] = sign;
    return x.type(s[0], s[1], s[2], s[3], s[4], s[5]);
  }

  // ---- 42 type, 43 noText, 44 hand

  private static void typeInSequence() {
    Bitwords x = new Bitwords();
    edges.due("six", x.type(1, 2, 3, 4, 5, 6), 6);
    edges.due("first and last", x.type(7, -1, -1, -1, -1, 8), 8);
    edges.due("the TEXT in HAND", x.hand(), "12345678");
  }

  private static void typeEachSign() {
    for (int at = 0; at < 6; at++) {
      Bitwords x = new Bitwords();
      for (int sign = 0; sign < SIGNS.length(); sign++) {
        edges.due("sign " + sign + " at " + at, typeAt(x, at, sign), sign + 1);
        edges.due("none at " + at, typeAt(x, at, Edges.NONE), sign + 1);
      }
      edges.due("the TEXT in HAND", x.hand(), SIGNS);
    }
  }

  private static void typeNothing() {
    for (int length : new int[] {0, 1, 79, 80}) {
      Bitwords x = holding("z".repeat(length));
      edges.due("none at " + length, x.type(-1, -1, -1, -1, -1, -1), length);
      edges.due("the TEXT in HAND", x.hand(), "z".repeat(length));
    }
  }

  private static void typeNoSign() {
    for (int at = 0; at < 6; at++) {
      for (int wrong : new int[] {-2, 39, Edges.MIN, Edges.MAX}) {
        Bitwords x = Edges.busy();
        int any = at;
        edges.fails(wrong + " alone at " + at, x, Check.ARGUMENT, () -> typeAt(x, any, wrong));
        int[] s = {1, 1, 1, 1, 1, 1};
        s[at] = wrong;
        edges.fails(wrong + " at " + at, x, Check.ARGUMENT, () -> x.type(s[0], s[1], s[2], s[3], s[4], s[5]));
      }
    }
  }

  private static void typeNoSignAndTooMuch() {
    for (int at = 0; at < 6; at++) {
      for (int wrong : new int[] {-2, 39}) {
        Bitwords x = holding("z".repeat(80));
        int[] s = {1, 1, 1, 1, 1, 1};
        s[at] = wrong;
        edges.fails(wrong + " at " + at, x, Check.ARGUMENT, () -> x.type(s[0], s[1], s[2], s[3], s[4], s[5]));
      }
    }
  }

  private static void typeTo80AndBeyond() {
    for (int more = 0; more <= 6; more++) {
      int[] s = {-1, -1, -1, -1, -1, -1};
      for (int i = 0; i < more; i++) {
        s[5 - i] = 9;
      }
      Bitwords x = holding("z".repeat(80 - more));
      edges.due(more + " more to 80", x.type(s[0], s[1], s[2], s[3], s[4], s[5]), 80);
      edges.due("the TEXT in HAND", x.hand(), "z".repeat(80 - more) + "9".repeat(more));
      if (more > 0) {
        Bitwords y = holding("z".repeat(81 - more));
        edges.fails(more + " more to 81", y, Check.STATE, () -> y.type(s[0], s[1], s[2], s[3], s[4], s[5]));
      }
    }
  }

  private static void typeOneBeyondAtEachPlace() {
    for (int at = 0; at < 6; at++) {
      for (int sign : new int[] {0, 38}) {
        int any = at;
        Bitwords x = holding("z".repeat(79));
        edges.due("the 80th at " + at, typeAt(x, at, sign), 80);
        edges.fails("the 81st at " + at, x, Check.STATE, () -> typeAt(x, any, sign));
      }
    }
  }

  private static void noTextOfEachLength() {
    for (int length = 0; length <= 80; length++) {
      Bitwords x = holding("7".repeat(length));
      x.noText();
      edges.due("of " + length, x.hand(), "");
      edges.due("of " + length + ", how long then", x.house(2), 0);
      edges.refuses("of " + length + ", READ then", x, () -> x.read(true, 0, 10));
    }
  }

  private static void noTextEnds() {
    for (int length : new int[] {0, 1, 79, 80}) {
      Bitwords x = holding("#".repeat(length));
      edges.due("of " + length, x.noText(), length);
      edges.due("the TEXT in HAND", x.hand(), "");
      edges.due("once more", x.noText(), 0);
      edges.due("six behind it", x.type(1, 2, 3, 4, 5, 6), 6);
    }
  }

  private static void handEnds() {
    edges.due("of a new object", new Bitwords().hand(), "");
    for (int length : new int[] {0, 1, 79, 80}) {
      Bitwords x = holding("+".repeat(length));
      edges.due("of " + length, x.hand(), "+".repeat(length));
      edges.due("once more", x.hand(), "+".repeat(length));
    }
  }

  // ---- 45 text

  private static void dueTexts(boolean isLong, long w, String... want) {
    Bitwords x = Edges.of(isLong, w);
    for (int what = 0; what < want.length; what++) {
      String call = Edges.nameOf(isLong) + " " + Long.toHexString(w) + ", what " + what;
      edges.due(call, x.text(isLong, 0, what), want[what]);
    }
  }

  private static void textOfNumbers() {
    for (boolean isLong : Edges.KINDS) {
      dueTexts(isLong, 1, "1", "1", "1", "1");
      dueTexts(isLong, 2, "10", "2", "2", "2");
      dueTexts(isLong, 7, "111", "7", "7", "7");
      dueTexts(isLong, 8, "1000", "10", "8", "8");
      dueTexts(isLong, 9, "1001", "11", "9", "9");
      dueTexts(isLong, 10, "1010", "12", "a", "10");
      dueTexts(isLong, 15, "1111", "17", "f", "15");
      dueTexts(isLong, 16, "10000", "20", "10", "16");
    }
    dueTexts(true, Long.MAX_VALUE, "1".repeat(63), "7".repeat(21), "7" + "f".repeat(15), "9223372036854775807");
    dueTexts(true, Long.MIN_VALUE, "1" + "0".repeat(63), "1" + "0".repeat(21), "8" + "0".repeat(15),
        "9223372036854775808");
    dueTexts(true, -1, "1".repeat(64), "1" + "7".repeat(21), "f".repeat(16), "18446744073709551615");
    dueTexts(false, 0x7fffffffL, "1".repeat(31), "1" + "7".repeat(10), "7" + "f".repeat(7), "2147483647");
    dueTexts(false, 0x80000000L, "1" + "0".repeat(31), "2" + "0".repeat(10), "8" + "0".repeat(7), "2147483648");
    dueTexts(false, 0xffffffffL, "1".repeat(32), "3" + "7".repeat(10), "f".repeat(8), "4294967295");
  }

  private static void textOfSigned() {
    Bitwords x = Edges.of(true, 1, Long.MAX_VALUE, Long.MIN_VALUE, -1);
    Check.putShort(x, 0, 1);
    Check.putShort(x, 1, Edges.MAX);
    Check.putShort(x, 2, Edges.MIN);
    Check.putShort(x, 3, -1);
    String[] longs = {"1", "9223372036854775807", "-9223372036854775808", "-1"};
    String[] shorts = {"1", "2147483647", "-2147483648", "-1"};
    for (int k = 0; k < 4; k++) {
      edges.due("LONG " + k, x.text(true, k, 4), longs[k]);
      edges.due("SHORT " + k, x.text(false, k, 4), shorts[k]);
    }
  }

  /** A digit at each place of a text, with 0 behind it: base^n, and what is 1 less and 1 more. */
  private static void textOfEachDigit() {
    int[] bases = {2, 8, 16, 10};
    for (boolean isLong : Edges.KINDS) {
      BigInteger all = half(isLong).shiftLeft(1);
      for (int what = 0; what < bases.length; what++) {
        BigInteger base = BigInteger.valueOf(bases[what]);
        for (BigInteger n = BigInteger.ONE; n.compareTo(all) < 0; n = n.multiply(base)) {
          for (BigInteger w : new BigInteger[] {n, n.subtract(BigInteger.ONE), n.add(BigInteger.ONE), n.negate()}) {
            Bitwords x = Edges.of(isLong, w.longValue());
            edges.due("what " + what + " of " + w, x.text(isLong, 0, what), w.mod(all).toString(bases[what]));
          }
        }
      }
    }
  }

  private static void textOfEmpty() {
    for (boolean isLong : Edges.KINDS) {
      dueTexts(isLong, 0, "0", "0", "0", "0", "0");
    }
  }

  private static void textBelow0() {
    for (boolean isLong : Edges.KINDS) {
      long top = Edges.top(isLong);
      for (long w : new long[] {0, 1, top - 1, top, top + 1, Edges.all(isLong)}) {
        Bitwords x = Edges.of(isLong, w);
        String call = Edges.nameOf(isLong) + " " + Long.toHexString(w) + " begins so, what ";
        for (int what = 0; what < 5; what++) {
          boolean isBelow = what == 4 && (w & top) != 0;
          edges.due(call + what, x.text(isLong, 0, what).startsWith("-"), isBelow);
        }
      }
    }
  }

  private static void textOfNoWord() {
    for (int what = 0; what < 5; what++) {
      int any = what;
      edges.wordsEnd((x, isLong, k) -> x.text(isLong, k, any));
    }
    Bitwords x = Edges.busy();
    edges.fails("ahead of what 5", x, Check.INDEX, () -> x.text(true, 4, 5));
    edges.fails("ahead of what -1", x, Check.INDEX, () -> x.text(false, -1, -1));
  }

  private static void textWithoutSense() {
    for (boolean isLong : Edges.KINDS) {
      edges.numbersEnd(0, 4, Check.ARGUMENT, (x, what) -> x.text(isLong, 0, what));
    }
  }

  // ---- 46 textIn, 47 carry

  /** What textIn tells, and that carry makes it the TEXT in HAND. */
  private static void dueTextIn(boolean isLong, long w, int base, String want) {
    Bitwords x = Check.type(Edges.of(isLong, w), "+#");
    String call = Edges.nameOf(isLong) + " " + Long.toHexString(w) + " by " + base;
    edges.due(call, x.textIn(isLong, 0, base), want);
    edges.due(call + ", the TEXT in HAND", x.hand(), "+#");
    edges.due(call + ", carry", x.carry(isLong, 0, base), want.length());
    edges.due(call + ", the TEXT in HAND then", x.hand(), want);
  }

  private static void textInEnds() {
    dueTextIn(true, Long.MAX_VALUE, 2, "1".repeat(63));
    dueTextIn(true, Long.MIN_VALUE, 2, "-1" + "0".repeat(63));
    dueTextIn(true, Long.MIN_VALUE + 1, 2, "-" + "1".repeat(63));
    dueTextIn(true, Long.MAX_VALUE, 36, "1y2p0ij32e8e7");
    dueTextIn(true, Long.MIN_VALUE, 36, "-1y2p0ij32e8e8");
    dueTextIn(true, Long.MAX_VALUE, 10, "9223372036854775807");
    dueTextIn(true, Long.MIN_VALUE, 10, "-9223372036854775808");
    dueTextIn(true, -1, 16, "-1");
    dueTextIn(true, 0, 2, "0");
    dueTextIn(true, 0, 36, "0");
    dueTextIn(false, 0x7fffffffL, 2, "1".repeat(31));
    dueTextIn(false, 0x80000000L, 2, "-1" + "0".repeat(31));
    dueTextIn(false, 0x80000001L, 2, "-" + "1".repeat(31));
    dueTextIn(false, 0x7fffffffL, 36, "zik0zj");
    dueTextIn(false, 0x80000000L, 36, "-zik0zk");
    dueTextIn(false, 0x80000000L, 10, "-2147483648");
    dueTextIn(false, 0xffffffffL, 16, "-1");
    dueTextIn(false, 0, 2, "0");
    dueTextIn(false, 0, 36, "0");
  }

  /** The last number of one digit, and the first and the last one of two. */
  private static void textInAroundTheBase() {
    for (boolean isLong : Edges.KINDS) {
      for (int base = 2; base <= 36; base++) {
        String last = SIGNS.substring(base - 1, base);
        long all = Edges.all(isLong);
        dueTextIn(isLong, base - 1, base, last);
        dueTextIn(isLong, base, base, "10");
        dueTextIn(isLong, base * base - 1, base, last + last);
        dueTextIn(isLong, base * base, base, "100");
        dueTextIn(isLong, (1L - base) & all, base, "-" + last);
        dueTextIn(isLong, -base & all, base, "-10");
      }
    }
  }

  private static void textInOfNoWord() {
    edges.wordsEnd((x, isLong, k) -> x.textIn(isLong, k, 2));
    edges.wordsEnd((x, isLong, k) -> x.textIn(isLong, k, 36));
    Bitwords x = Edges.busy();
    edges.fails("ahead of BASE 1", x, Check.INDEX, () -> x.textIn(true, 4, 1));
    edges.fails("ahead of BASE 37", x, Check.INDEX, () -> x.textIn(false, -1, 37));
  }

  private static void textInNoBase() {
    for (boolean isLong : Edges.KINDS) {
      edges.numbersEnd(2, 36, Check.ARGUMENT, (x, base) -> x.textIn(isLong, 0, base));
      Bitwords x = Edges.busy();
      edges.fails("BASE 0", x, Check.ARGUMENT, () -> x.textIn(isLong, 0, 0));
      edges.fails("BASE -2", x, Check.ARGUMENT, () -> x.textIn(isLong, 0, -2));
    }
  }

  private static void carryOverAnother() {
    for (boolean isLong : Edges.KINDS) {
      for (int length : new int[] {0, 1, 79, 80}) {
        Bitwords x = Check.type(Edges.of(isLong, 0, Edges.top(isLong)), "#".repeat(length));
        edges.due("0 over " + length, x.carry(isLong, 0, 10), 1);
        edges.due("the TEXT in HAND", x.hand(), "0");
        edges.due("the longest over that", x.carry(isLong, 1, 2), Edges.sizeOf(isLong) + 1);
        edges.due("the TEXT in HAND", x.hand(), "-1" + "0".repeat(Edges.sizeOf(isLong) - 1));
        edges.due("0 over that", x.carry(isLong, 0, 10), 1);
        edges.due("the TEXT in HAND", x.hand(), "0");
      }
    }
  }

  private static void carryEnds() {
    for (boolean isLong : Edges.KINDS) {
      int size = Edges.sizeOf(isLong);
      Bitwords x = Edges.of(isLong, 0, 1, Edges.all(isLong), Edges.top(isLong));
      int[] lengths = {1, 1, 2, size + 1};
      for (int k = 0; k < 4; k++) {
        edges.due(size + " by 2, " + k, x.carry(isLong, k, 2), lengths[k]);
        edges.due("house", x.house(2), lengths[k]);
      }
      for (int more = size + 1; more < 80; more++) {
        typeAt(x, 0, 1);
      }
      edges.due("filled up", x.house(2), 80);
      edges.fails("and beyond", x, Check.STATE, () -> typeAt(x, 5, 1));
    }
  }

  private static void carryOfNoWord() {
    edges.wordsEnd((x, isLong, k) -> x.carry(isLong, k, 2));
    edges.wordsEnd((x, isLong, k) -> x.carry(isLong, k, 36));
    Bitwords x = Edges.busy();
    edges.fails("ahead of BASE 1", x, Check.INDEX, () -> x.carry(true, 4, 1));
    edges.fails("ahead of BASE 37", x, Check.INDEX, () -> x.carry(false, -1, 37));
  }

  private static void carryByNoBase() {
    for (boolean isLong : Edges.KINDS) {
      edges.numbersEnd(2, 36, Check.ARGUMENT, (x, base) -> x.carry(isLong, 0, base));
      Bitwords x = Edges.busy();
      edges.fails("BASE 0", x, Check.ARGUMENT, () -> x.carry(isLong, 0, 0));
      edges.fails("BASE -2", x, Check.ARGUMENT, () -> x.carry(isLong, 0, -2));
    }
  }

  // ---- 48 read

  private static void dueRead(boolean isLong, String text, int base, BigInteger number) {
    Bitwords x = Check.type(Edges.of(isLong, 0x1234567), text);
    long then = number.longValue() & Edges.all(isLong);
    edges.makes(text + " by " + base, x, isLong, x.read(isLong, 0, base), Edges.onesOf(then), then);
    edges.due("the TEXT in HAND", x.hand(), text);
  }

  private static void dueNotRead(boolean isLong, String text, int base) {
    Bitwords x = Check.type(Edges.of(isLong, 0x1234567), text);
    edges.refuses(Edges.nameOf(isLong) + ", " + text + " by " + base, x, () -> x.read(isLong, 0, base));
  }

  /** 2^(SIZE - 1), which is no SIGNED number, while the one below it, and it below 0, are. */
  private static BigInteger half(boolean isLong) {
    return BigInteger.TWO.pow(Edges.sizeOf(isLong) - 1);
  }

  private static void readEnds() {
    for (boolean isLong : Edges.KINDS) {
      BigInteger greatest = half(isLong).subtract(BigInteger.ONE);
      for (int base = 2; base <= 36; base++) {
        dueRead(isLong, greatest.toString(base), base, greatest);
        dueRead(isLong, "+" + greatest.toString(base), base, greatest);
        dueRead(isLong, "0" + greatest.toString(base), base, greatest);
        dueRead(isLong, greatest.negate().toString(base), base, greatest.negate());
        dueRead(isLong, half(isLong).negate().toString(base), base, half(isLong).negate());
        dueRead(isLong, "0", base, BigInteger.ZERO);
        dueRead(isLong, "-0", base, BigInteger.ZERO);
        dueRead(isLong, "+0", base, BigInteger.ZERO);
        dueRead(isLong, "-1", base, BigInteger.ONE.negate());
      }
    }
  }

  /** The greatest digit by the BASE, and the first sign that is none, ahead of a digit, behind one, and alone. */
  private static void readAroundTheBase() {
    for (boolean isLong : Edges.KINDS) {
      for (int base = 2; base <= 36; base++) {
        String last = SIGNS.substring(base - 1, base);
        String none = SIGNS.substring(base, base + 1);
        dueRead(isLong, last, base, BigInteger.valueOf(base - 1));
        dueRead(isLong, "-" + last, base, BigInteger.valueOf(1 - base));
        dueRead(isLong, "1" + last, base, BigInteger.valueOf(2 * base - 1));
        dueRead(isLong, last + "1", base, BigInteger.valueOf((base - 1) * base + 1));
        dueNotRead(isLong, none, base);
        dueNotRead(isLong, "-" + none, base);
        dueNotRead(isLong, "1" + none, base);
        dueNotRead(isLong, "1" + none + "1", base);
        if (base < 36) {
          dueNotRead(isLong, none + "1", base);
        }
      }
    }
  }

  private static void readTellsOnes() {
    for (boolean isLong : Edges.KINDS) {
      for (int n = 0; n < Edges.sizeOf(isLong); n++) {
        BigInteger ones = BigInteger.TWO.pow(n).subtract(BigInteger.ONE);
        dueRead(isLong, n + "", 10, BigInteger.valueOf(n));
        dueRead(isLong, ones.toString(7), 7, ones);
        dueRead(isLong, ones.negate().toString(36), 36, ones.negate());
      }
    }
  }

  private static void readNotSo() {
    String[] texts = {"", "-", "+", "#", "--", "++", "-+", "+-", "--1", "++1", "-+1", "+-1", "1-", "1+", "1#", "#1", "1-1",
      "1+1", "1#1", "-1-", "-1-1", "+1+", "-#1"};
    for (boolean isLong : Edges.KINDS) {
      for (String text : texts) {
        for (int base : new int[] {2, 10, 36}) {
          dueNotRead(isLong, text, base);
        }
      }
    }
  }

  private static void readBeyond() {
    for (boolean isLong : Edges.KINDS) {
      BigInteger half = half(isLong);
      BigInteger all = half.shiftLeft(1);
      for (int base = 2; base <= 36; base++) {
        dueNotRead(isLong, half.toString(base), base);
        dueNotRead(isLong, "+" + half.toString(base), base);
        dueNotRead(isLong, half.add(BigInteger.ONE).negate().toString(base), base);
        dueNotRead(isLong, all.subtract(BigInteger.ONE).toString(base), base);
        dueNotRead(isLong, all.toString(base), base);
        dueNotRead(isLong, all.add(BigInteger.ONE).toString(base), base);
        dueNotRead(isLong, all.negate().toString(base), base);
        dueNotRead(isLong, all.multiply(BigInteger.valueOf(base)).add(BigInteger.ONE).toString(base), base);
        dueNotRead(isLong, half.subtract(BigInteger.ONE).toString(base) + "0", base);
      }
    }
  }

  private static void read80Signs() {
    for (boolean isLong : Edges.KINDS) {
      String greatest = half(isLong).subtract(BigInteger.ONE).toString();
      String beyond = half(isLong).toString();
      dueRead(isLong, "0".repeat(80), 2, BigInteger.ZERO);
      dueRead(isLong, "-" + "0".repeat(79), 36, BigInteger.ZERO);
      dueRead(isLong, "0".repeat(79) + "1", 2, BigInteger.ONE);
      dueRead(isLong, "-" + "0".repeat(78) + "z", 36, BigInteger.valueOf(-35));
      dueRead(isLong, "0".repeat(80 - greatest.length()) + greatest, 10, half(isLong).subtract(BigInteger.ONE));
      dueRead(isLong, "-" + "0".repeat(79 - beyond.length()) + beyond, 10, half(isLong).negate());
      dueNotRead(isLong, "0".repeat(80 - beyond.length()) + beyond, 10);
      dueNotRead(isLong, "1" + "0".repeat(79), 2);
      dueNotRead(isLong, "1".repeat(80), 2);
      dueNotRead(isLong, "-" + "1".repeat(79), 2);
      dueNotRead(isLong, "z".repeat(80), 36);
      dueNotRead(isLong, "0".repeat(79) + "#", 36);
      dueNotRead(isLong, "0".repeat(79) + "-", 36);
    }
  }

  private static void readOfNoWord() {
    edges.wordsEnd((x, isLong, k) -> x.read(isLong, k, 10));
    Bitwords x = holding("");
    edges.fails("ahead of BASE 1", x, Check.INDEX, () -> x.read(true, 4, 1));
    edges.fails("ahead of BASE 37", x, Check.INDEX, () -> x.read(false, -1, 37));
    edges.fails("ahead of REFUSED", x, Check.INDEX, () -> x.read(true, -1, 10));
  }

  private static void readByNoBase() {
    for (boolean isLong : Edges.KINDS) {
      edges.numbersEnd(2, 36, Check.ARGUMENT, (x, base) -> x.read(isLong, 0, base));
      Bitwords x = holding("#");
      edges.fails("BASE 1 ahead of REFUSED", x, Check.ARGUMENT, () -> x.read(isLong, 0, 1));
      edges.fails("BASE 37 ahead of REFUSED", x, Check.ARGUMENT, () -> x.read(isLong, 0, 37));
      edges.fails("BASE 0 ahead of REFUSED", x, Check.ARGUMENT, () -> x.read(isLong, 0, 0));
    }
  }

  // ---- 49 readNumber

  private static void dueNumber(boolean isLong, String text, BigInteger number) {
    Bitwords x = Check.type(Edges.of(isLong, 0x1234567), text);
    long then = number.longValue();
    edges.makes(text, x, isLong, x.readNumber(isLong, 0), Edges.onesOf(then), then);
    edges.due("the TEXT in HAND", x.hand(), text);
  }

  private static void dueNoNumber(boolean isLong, String text) {
    Bitwords x = Check.type(Edges.of(isLong, 0x1234567), text);
    edges.refuses(Edges.nameOf(isLong) + ", " + text, x, () -> x.readNumber(isLong, 0));
  }

  private static void readNumberEnds() {
    for (boolean isLong : Edges.KINDS) {
      BigInteger all = half(isLong).shiftLeft(1);
      BigInteger one = BigInteger.ONE;
      BigInteger half = half(isLong);
      for (BigInteger n : new BigInteger[] {BigInteger.ZERO, one, half.subtract(one), half, all.subtract(one)}) {
        dueNumber(isLong, n.toString(), n);
        dueNumber(isLong, "0" + n, n);
      }
      dueNumber(isLong, all.subtract(BigInteger.TWO).toString(), all.subtract(BigInteger.TWO));
    }
  }

  /** Each digit by 10 at each place, and none that is more. */
  private static void readNumberBy10() {
    for (boolean isLong : Edges.KINDS) {
      for (int zeros = 0; zeros < (isLong ? 19 : 9); zeros++) {
        for (int digit = 0; digit < 10; digit++) {
          String text = digit + "0".repeat(zeros);
          dueNumber(isLong, text, new BigInteger(text));
        }
        for (int sign = 10; sign < SIGNS.length(); sign++) {
          dueNoNumber(isLong, "1" + SIGNS.charAt(sign) + "0".repeat(zeros));
        }
      }
    }
  }

  private static void readNumberTellsOnes() {
    for (boolean isLong : Edges.KINDS) {
      for (int n = 0; n <= Edges.sizeOf(isLong); n++) {
        BigInteger lowest = BigInteger.TWO.pow(n).subtract(BigInteger.ONE);
        dueNumber(isLong, lowest.toString(), lowest);
        BigInteger highest = lowest.shiftLeft(Edges.sizeOf(isLong) - n);
        dueNumber(isLong, "+" + highest, highest);
      }
    }
  }

  private static void readNumberWithSign() {
    for (boolean isLong : Edges.KINDS) {
      BigInteger greatest = half(isLong).shiftLeft(1).subtract(BigInteger.ONE);
      dueNumber(isLong, "+0", BigInteger.ZERO);
      dueNumber(isLong, "+1", BigInteger.ONE);
      dueNumber(isLong, "+" + greatest, greatest);
      dueNoNumber(isLong, "-0");
      dueNoNumber(isLong, "-1");
      dueNoNumber(isLong, "-" + half(isLong));
      dueNoNumber(isLong, "-" + greatest);
    }
  }

  private static void readNumberNotSo() {
    String[] texts = {"", "+", "-", "#", "++1", "+-1", "-+1", "1+", "1-", "1#", "#1", "1+1", "1-1", "a", "1a", "a1", "0x1",
      "+#1", "+a"};
    for (boolean isLong : Edges.KINDS) {
      for (String text : texts) {
        dueNoNumber(isLong, text);
      }
      dueNumber(isLong, "9", BigInteger.valueOf(9));
    }
  }

  private static void readNumberBeyond() {
    for (boolean isLong : Edges.KINDS) {
      BigInteger all = half(isLong).shiftLeft(1);
      dueNoNumber(isLong, all.toString());
      dueNoNumber(isLong, "+" + all);
      dueNoNumber(isLong, "0" + all);
      dueNoNumber(isLong, all.add(BigInteger.ONE).toString());
      dueNoNumber(isLong, all.shiftLeft(1).toString());
      dueNoNumber(isLong, all.multiply(BigInteger.TEN).toString());
      dueNoNumber(isLong, all.subtract(BigInteger.ONE) + "0");
      dueNoNumber(isLong, all.pow(2).toString());
      dueNoNumber(isLong, "9".repeat(all.toString().length()));
    }
    dueNoNumber(false, BigInteger.TWO.pow(64).subtract(BigInteger.ONE).toString());
  }

  private static void readNumber80Signs() {
    for (boolean isLong : Edges.KINDS) {
      BigInteger all = half(isLong).shiftLeft(1);
      BigInteger greatest = all.subtract(BigInteger.ONE);
      int digits = all.toString().length();
      dueNumber(isLong, "0".repeat(80), BigInteger.ZERO);
      dueNumber(isLong, "+" + "0".repeat(79), BigInteger.ZERO);
      dueNumber(isLong, "0".repeat(80 - digits) + greatest, greatest);
      dueNoNumber(isLong, "0".repeat(80 - digits) + all);
      dueNoNumber(isLong, "1" + "0".repeat(79));
      dueNoNumber(isLong, "9".repeat(80));
      dueNoNumber(isLong, "0".repeat(79) + "a");
    }
  }

  private static void readNumberOfNoWord() {
    edges.wordsEnd((x, isLong, k) -> x.readNumber(isLong, k));
    Bitwords x = holding("12");
    edges.fails("of what can be READ", x, Check.INDEX, () -> x.readNumber(true, 4));
    edges.fails("of what can be READ", x, Check.INDEX, () -> x.readNumber(false, -1));
  }

  // ---- 50 decode

  private static void dueDecoded(String text, long number) {
    for (boolean isLong : Edges.KINDS) {
      dueDecoded(isLong, text, number);
    }
  }

  private static void dueDecoded(boolean isLong, String text, long number) {
    Bitwords x = Check.type(Edges.of(isLong, 0x1234567), text);
    long then = number & Edges.all(isLong);
    edges.makes(text, x, isLong, x.decode(isLong, 0), Edges.onesOf(then), then);
    edges.due("the TEXT in HAND", x.hand(), text);
  }

  private static void dueNotDecoded(String... texts) {
    for (boolean isLong : Edges.KINDS) {
      for (String text : texts) {
        dueNotDecoded(isLong, text);
      }
    }
  }

  private static void dueNotDecoded(boolean isLong, String text) {
    Bitwords x = Check.type(Edges.of(isLong, 0x1234567), text);
    edges.refuses(Edges.nameOf(isLong) + ", " + text, x, () -> x.decode(isLong, 0));
  }

  /** Numbers around each power of 2, told in each of the four ways, and with each sign. */
  private static void decodeEachWay() {
    for (boolean isLong : Edges.KINDS) {
      for (int p = 0; p < Edges.sizeOf(isLong) - 1; p++) {
        for (long n = (1L << p) - 1; n <= (1L << p) + 1 && n < Edges.top(isLong) - 1; n++) {
          String hex = Long.toHexString(n);
          for (String text : new String[] {Long.toString(n), "0x" + hex, "#" + hex, "0" + Long.toOctalString(n)}) {
            dueDecoded(isLong, text, n);
            dueDecoded(isLong, "+" + text, n);
            dueDecoded(isLong, "-" + text, -n);
          }
        }
      }
    }
  }

  private static void decodeTellsOnes() {
    for (boolean isLong : Edges.KINDS) {
      for (int n = 0; n < Edges.sizeOf(isLong); n++) {
        long ones = (1L << n) - 1;
        dueDecoded(isLong, "0x" + Long.toHexString(ones), ones);
        dueDecoded(isLong, "-0" + Long.toOctalString(ones), -ones);
      }
    }
  }

  private static void decodeWithSign() {
    String[] texts = {"0", "7", "9", "10", "0x7", "#7", "07", "0xff", "#ff", "0377"};
    int[] numbers = {0, 7, 9, 10, 7, 7, 7, 255, 255, 255};
    for (int i = 0; i < texts.length; i++) {
      dueDecoded(texts[i], numbers[i]);
      dueDecoded("+" + texts[i], numbers[i]);
      dueDecoded("-" + texts[i], -numbers[i]);
      dueNotDecoded("--" + texts[i], "++" + texts[i], "+-" + texts[i], "-+" + texts[i]);
    }
  }

  private static void decodeBy16() {
    for (String ahead : new String[] {"0x", "#", "-0x", "-#", "+0x", "+#"}) {
      int sign = ahead.startsWith("-") ? -1 : 1;
      dueDecoded(ahead + "0", 0);
      dueDecoded(ahead + "9", 9 * sign);
      dueDecoded(ahead + "a", 10 * sign);
      dueDecoded(ahead + "f", 15 * sign);
      dueDecoded(ahead + "10", 16 * sign);
      dueDecoded(ahead + "007", 7 * sign);
      dueDecoded(ahead + "08", 8 * sign);
      dueNotDecoded(ahead, ahead + "g", ahead + "fg", ahead + "gf", ahead + "x", ahead + "0x1", ahead + "#", ahead + "#1");
    }
  }

  private static void decodeSignBehind() {
    dueNotDecoded("0x-1", "0x+1", "#-1", "#+1", "-0x-1", "-#-1", "+0x+1", "+#+1", "0x-", "#-", "0-1", "0+1", "-0-1");
    dueNotDecoded("0-x1", "0+x1", "0-", "0+");
    dueDecoded("-0x1", -1);
    dueDecoded("+#1", 1);
  }

  private static void decodeBy8() {
    for (String ahead : new String[] {"", "-", "+"}) {
      int sign = ahead.equals("-") ? -1 : 1;
      dueDecoded(ahead + "0", 0);
      dueDecoded(ahead + "00", 0);
      dueDecoded(ahead + "000", 0);
      dueDecoded(ahead + "01", sign);
      dueDecoded(ahead + "07", 7 * sign);
      dueDecoded(ahead + "010", 8 * sign);
      dueDecoded(ahead + "0077", 63 * sign);
      dueNotDecoded(ahead + "08", ahead + "09", ahead + "0a", ahead + "018", ahead + "081", ahead + "0w", ahead + "0y");
      dueNotDecoded(ahead + "00x", ahead + "00x1", ahead + "01x", ahead + "0#", ahead + "0#1", ahead + "00#1");
    }
  }

  private static void decodeBy10() {
    for (String ahead : new String[] {"", "-", "+"}) {
      int sign = ahead.equals("-") ? -1 : 1;
      dueDecoded(ahead + "1", sign);
      dueDecoded(ahead + "8", 8 * sign);
      dueDecoded(ahead + "9", 9 * sign);
      dueDecoded(ahead + "10", 10 * sign);
      dueDecoded(ahead + "100", 100 * sign);
      dueNotDecoded(ahead + "a", ahead + "1a", ahead + "a1", ahead + "f", ahead + "x", ahead + "x1", ahead + "1x");
      dueNotDecoded(ahead + "10x1", ahead + "1#", ahead + "1#1");
    }
  }

  private static void decodeNothingElse() {
    dueNotDecoded("", "-", "+", "0x", "#", "-0x", "-#", "+0x", "+#", "x", "-x", "##", "##1");
    dueNotDecoded("1-", "1+", "1-1", "0x1-", "#1+", "01-", "0x1#", "#1x");
    dueDecoded("0", 0);
    dueDecoded("-0", 0);
    dueDecoded("+0", 0);
  }

  private static void decodeNotSo() {
    for (boolean isLong : Edges.KINDS) {
      Bitwords x = new Bitwords();
      edges.refuses("the TEXT in HAND empty", x, () -> x.decode(isLong, 0));
      edges.refuses("once more", x, () -> x.decode(isLong, 0));
      Check.type(x, "0");
      edges.makes("0, and one sign more", x, isLong, x.decode(isLong, 0), 0, 0);
      x.type(33, -1, -1, -1, -1, -1);
      edges.refuses("0x, and one sign more", x, () -> x.decode(isLong, 0));
      x.type(15, -1, -1, -1, -1, -1);
      edges.makes("0xf, and one sign more", x, isLong, x.decode(isLong, 0), 4, 15);
      x.type(16, -1, -1, -1, -1, -1);
      edges.refuses("0xfg", x, () -> x.decode(isLong, 0));
      edges.due("how often it was told", x.house(0), 4);
    }
  }

  /** 2^(SIZE - 1) - 1 and -2^(SIZE - 1) can be told in each way, 2^(SIZE - 1) and what is below that can not. */
  private static void decodeBeyond() {
    String[] ahead = {"0x", "#", "0", ""};
    int[] bases = {16, 16, 8, 10};
    for (boolean isLong : Edges.KINDS) {
      BigInteger half = half(isLong);
      BigInteger greatest = half.subtract(BigInteger.ONE);
      for (int i = 0; i < 4; i++) {
        int base = bases[i];
        dueDecoded(isLong, ahead[i] + greatest.toString(base), greatest.longValue());
        dueDecoded(isLong, "+" + ahead[i] + greatest.toString(base), greatest.longValue());
        dueDecoded(isLong, "-" + ahead[i] + greatest.toString(base), greatest.negate().longValue());
        dueDecoded(isLong, "-" + ahead[i] + half.toString(base), half.negate().longValue());
        dueNotDecoded(isLong, ahead[i] + half.toString(base));
        dueNotDecoded(isLong, "+" + ahead[i] + half.toString(base));
        dueNotDecoded(isLong, "-" + ahead[i] + half.add(BigInteger.ONE).toString(base));
        for (int beyond = -1; beyond < 2; beyond++) {
          BigInteger all = half.shiftLeft(1).add(BigInteger.valueOf(beyond));
          dueNotDecoded(isLong, ahead[i] + all.toString(base));
          dueNotDecoded(isLong, "-" + ahead[i] + all.toString(base));
        }
      }
    }
  }

  private static void decode80Signs() {
    for (boolean isLong : Edges.KINDS) {
      String greatest = half(isLong).subtract(BigInteger.ONE).toString(16);
      String beyond = half(isLong).toString(16);
      int zeros = 80 - beyond.length();
      dueDecoded(isLong, "0".repeat(80), 0);
      dueDecoded(isLong, "0".repeat(79) + "7", 7);
      dueDecoded(isLong, "-0x" + "0".repeat(76) + "f", -15);
      dueDecoded(isLong, "0x" + "0".repeat(zeros - 2) + greatest, Edges.top(isLong) - 1);
      dueDecoded(isLong, "#" + "0".repeat(zeros - 1) + greatest, Edges.top(isLong) - 1);
      dueDecoded(isLong, "-#" + "0".repeat(zeros - 2) + beyond, Edges.top(isLong));
      dueNotDecoded(isLong, "0x" + "0".repeat(zeros - 2) + beyond);
      dueNotDecoded(isLong, "#" + "0".repeat(zeros - 1) + beyond);
      dueNotDecoded(isLong, "0".repeat(79) + "8");
      dueNotDecoded(isLong, "9".repeat(80));
      dueNotDecoded(isLong, "0x" + "f".repeat(78));
      dueNotDecoded(isLong, "0" + "7".repeat(79));
    }
  }

  private static void decodeOfNoWord() {
    edges.wordsEnd((x, isLong, k) -> x.decode(isLong, k));
    Bitwords x = holding("");
    edges.fails("ahead of REFUSED", x, Check.INDEX, () -> x.decode(true, 4));
    edges.fails("ahead of REFUSED", x, Check.INDEX, () -> x.decode(false, -1));
  }
}
