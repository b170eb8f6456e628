/** Promises 42 to 50: texts. */
final class TextsTest {
  private static final int MIN = Integer.MIN_VALUE;
  private static final int MAX = Integer.MAX_VALUE;
  private static final String ZEROS = "0".repeat(56);
  private static final Check check = new Check();

  public static void main(String[] args) {
    type();
    typeAllSigns();
    typeUpTo80();
    typeEachTo80();
    typeWrong();
    noText();
    text();
    textIn();
    carry();
    read();
    readAtTheBounds();
    readRefused();
    readWhatIsTold();
    readNumber();
    readNumberRefused();
    decode();
    decodeRefused();
    wrongWords();
    wrongChoices();
    check.end();
  }

  private static void type() {
    Bitwords x = new Bitwords();
    check.due("42: nothing", x.type(-1, -1, -1, -1, -1, -1), 0);
    check.due("42: six", x.type(36, 0, 33, 10, 35, 9), 6);
    check.due("44: hand", x.hand(), "-0xaz9");
    check.due("42: some, none between", x.type(-1, 1, -1, 2, -1, -1), 8);
    check.due("42: the last alone", x.type(-1, -1, -1, -1, -1, 38), 9);
    check.due("42: the first alone", x.type(37, -1, -1, -1, -1, -1), 10);
    check.due("44: hand", x.hand(), "-0xaz912#+");
    check.due("44: hand again", x.hand(), "-0xaz912#+");
  }

  private static void typeAllSigns() {
    Bitwords x = new Bitwords();
    for (int sign = 0; sign < 39; sign++) {
      check.due("42: sign " + sign, x.type(-1, -1, sign, -1, -1, -1), sign + 1);
    }
    check.due("44: all signs", x.hand(), "0123456789abcdefghijklmnopqrstuvwxyz-+#");
  }

  private static void typeUpTo80() {
    Bitwords x = new Bitwords();
    for (int length = 6; length <= 78; length += 6) {
      check.due("42: six more", x.type(1, 2, 3, 4, 5, 6), length);
    }
    check.fails("42: 84", x, Check.STATE, () -> x.type(1, 1, 1, 1, 1, 1));
    check.fails("42: 81", x, Check.STATE, () -> x.type(-1, 1, -1, 1, -1, 1));
    check.due("42: 80", x.type(-1, 7, -1, -1, 8, -1), 80);
    check.due("42: nothing more", x.type(-1, -1, -1, -1, -1, -1), 80);
    check.fails("42: 81 by one", x, Check.STATE, () -> x.type(-1, -1, 0, -1, -1, -1));
    check.fails("42: 81, but no sign goes ahead", x, Check.ARGUMENT, () -> x.type(0, 0, 0, 0, 0, 39));
    check.due("44: the 80", x.hand(), "123456".repeat(13) + "78");
    check.due("51: its length", x.house(2), 80);
    check.due("43: noText", x.noText(), 80);
    check.due("42: from the start", x.type(9, -1, -1, -1, -1, -1), 1);
  }

  /** Each of the six counts once, wherever it stands. */
  private static void typeEachTo80() {
    for (int at = 0; at < 6; at++) {
      Bitwords x = Check.type(new Bitwords(), "1".repeat(79));
      int[] s = {-1, -1, -1, -1, -1, -1};
      s[at] = 9;
      check.due("42: the 80th at " + at, x.type(s[0], s[1], s[2], s[3], s[4], s[5]), 80);
      check.due("44: hand", x.hand(), "1".repeat(79) + "9");
      check.fails("42: the 81st at " + at, x, Check.STATE, () -> x.type(s[0], s[1], s[2], s[3], s[4], s[5]));
    }
  }

  private static void typeWrong() {
    for (int wrong : new int[] {-2, 39, MIN, MAX}) {
      for (int at = 0; at < 6; at++) {
        Bitwords x = Check.type(new Bitwords(), "12");
        int[] s = {1, 1, 1, 1, 1, 1};
        s[at] = wrong;
        check.fails("42: " + wrong + " at " + at, x, Check.ARGUMENT, () -> x.type(s[0], s[1], s[2], s[3], s[4], s[5]));
      }
    }
  }

  private static void noText() {
    Bitwords x = Check.type(new Bitwords(), "abc");
    check.due("43: noText", x.noText(), 3);
    check.due("44: hand", x.hand(), "");
    check.due("43: noText again", x.noText(), 0);
  }

  private static void text() {
    dueTexts(true, -1, "1".repeat(64), "1777777777777777777777", "ffffffffffffffff", "18446744073709551615", "-1");
    dueTexts(true, 0, "0", "0", "0", "0", "0");
    dueTexts(true, Long.MIN_VALUE, "1" + "0".repeat(63), "1000000000000000000000", "8000000000000000",
        "9223372036854775808", "-9223372036854775808");
    dueTexts(true, Long.MAX_VALUE, "1".repeat(63), "777777777777777777777", "7fffffffffffffff", "9223372036854775807",
        "9223372036854775807");
    dueTexts(true, 1000, "1111101000", "1750", "3e8", "1000", "1000");
    dueTexts(false, -1, "1".repeat(32), "37777777777", "ffffffff", "4294967295", "-1");
    dueTexts(false, 0, "0", "0", "0", "0", "0");
    dueTexts(false, MIN, "1" + "0".repeat(31), "20000000000", "80000000", "2147483648", "-2147483648");
    dueTexts(false, MAX, "1".repeat(31), "17777777777", "7fffffff", "2147483647", "2147483647");
  }

  private static void dueTexts(boolean isLong, long w, String... want) {
    Bitwords x = Check.type(Check.ofLongs(0, w), "7");
    Check.putShort(x, 1, (int) w);
    for (int what = 0; what < 5; what++) {
      check.due("45: text of " + w + ", " + what, x.text(isLong, 1, what), want[what]);
    }
    check.due("45: the text in hand stays", x.hand(), "7");
  }

  private static void textIn() {
    for (int base = 2; base <= 36; base++) {
      for (long w : new long[] {0, 1, 35, 36, -36, 1000003, Long.MIN_VALUE, Long.MAX_VALUE, -1}) {
        Bitwords x = Check.ofLongs(w);
        Check.putShort(x, 3, (int) w);
        check.due("46: " + w + " by " + base, x.textIn(true, 0, base), Long.toString(w, base));
        check.due("46: of a short " + w + " by " + base, x.textIn(false, 3, base), Long.toString((int) w, base));
        check.due("46: the text in hand stays", x.hand(), "");
      }
    }
  }

  private static void carry() {
    Bitwords x = Check.type(Check.ofLongs(Long.MIN_VALUE, 255), "zzz");
    check.due("47: the longest", x.carry(true, 0, 2), 65);
    check.due("44: hand", x.hand(), "-1" + "0".repeat(63));
    check.due("47: a shorter one", x.carry(true, 1, 16), 2);
    check.due("44: hand", x.hand(), "ff");
    check.due("47: of an empty one", x.carry(true, 2, 36), 1);
    check.due("44: hand", x.hand(), "0");
    Check.putShort(x, 0, MIN);
    check.due("47: of a short", x.carry(false, 0, 10), 11);
    check.due("44: hand", x.hand(), "-2147483648");
    check.due("48: it can be read", x.read(false, 1, 10), 1);
  }

  private static void read() {
    dueRead("0", 10, 0);
    dueRead("-0", 10, 0);
    dueRead("+0", 2, 0);
    dueRead("17", 8, 15);
    dueRead("+17", 10, 17);
    dueRead("-17", 10, -17);
    dueRead("zz", 36, 1295);
    dueRead("-zz", 36, -1295);
    dueRead("-1010", 2, -10);
    dueRead(ZEROS + "7", 8, 7);
    dueRead("-" + ZEROS + "123", 10, -123);
    dueRead("0".repeat(80), 10, 0);
    dueRead("0".repeat(79) + "1", 36, 1);
    dueRead("0x", 34, 33);
  }

  private static void dueRead(String text, int base, long want) {
    Bitwords x = Check.type(Check.ofLongs(-5), text);
    Check.putShort(x, 0, -5);
    check.due("48: " + text + " by " + base, x.read(true, 0, base), Long.bitCount(want));
    check.due("48: its number", x.text(true, 0, 4), Long.toString(want));
    if ((int) want == want) {
      check.due("48: of a short, " + text + " by " + base, x.read(false, 0, base), Integer.bitCount((int) want));
      check.due("48: its number", x.text(false, 0, 4), Long.toString(want));
    }
    check.due("48: the text in hand stays", x.hand(), text);
  }

  private static void readAtTheBounds() {
    dueRead("9223372036854775807", 10, Long.MAX_VALUE);
    dueRead("-9223372036854775808", 10, Long.MIN_VALUE);
    dueRead("2147483647", 10, MAX);
    dueRead("-2147483648", 10, MIN);
    dueNotRead(true, "9223372036854775808", 10);
    dueNotRead(true, "-9223372036854775809", 10);
    dueNotRead(true, "18446744073709551616", 10);
    dueNotRead(true, "18446744073709551617", 10);
    dueNotRead(true, "8000000000000000", 16);
    dueNotRead(true, "ffffffffffffffff", 16);
    dueNotRead(true, "10000000000000000", 16);
    dueNotRead(true, "1".repeat(80), 2);
    dueNotRead(true, "z".repeat(80), 36);
    dueNotRead(false, "2147483648", 10);
    dueNotRead(false, "-2147483649", 10);
    dueNotRead(false, "4294967295", 10);
    dueNotRead(false, "4294967297", 10);
    dueNotRead(false, "18446744073709551617", 10);
    dueNotRead(false, "80000000", 16);
  }

  private static void dueNotRead(boolean isLong, String text, int base) {
    Bitwords x = Check.type(Check.ofLongs(9), text);
    Check.putShort(x, 0, 9);
    check.refuses("48: " + text + " by " + base, x, () -> x.read(isLong, 0, base));
  }

  private static void readRefused() {
    String[] texts = {"", "-", "+", "--1", "+-1", "-+1", "1-", "1+1", "#1", "1#", "0x1", "a", "1a", "a1", "-a"};
    for (String text : texts) {
      dueNotRead(true, text, 10);
      dueNotRead(false, text, 10);
    }
    dueNotRead(true, "2", 2);
    dueNotRead(true, "102", 2);
    dueNotRead(true, "z", 35);
    dueNotRead(true, "8", 8);
    dueNotRead(true, "1-", 36);
    dueNotRead(true, "1+", 36);
    dueNotRead(true, "#", 36);
  }

  private static void readWhatIsTold() {
    for (int base = 2; base <= 36; base++) {
      for (long w : new long[] {0, 1, -1, 123456789012345678L, Long.MIN_VALUE, Long.MAX_VALUE}) {
        Bitwords x = Check.ofLongs(w);
        Check.putShort(x, 0, (int) w);
        x.carry(true, 0, base);
        check.due("48: " + w + " by " + base, x.read(true, 1, base), Long.bitCount(w));
        check.due("48: is it again", x.areSo(true, 0, 1, 0), true);
        x.carry(false, 0, base);
        check.due("48: of a short, " + (int) w + " by " + base, x.read(false, 1, base), Integer.bitCount((int) w));
        check.due("48: is it again", x.areSo(false, 0, 1, 0), true);
      }
    }
  }

  private static void readNumber() {
    dueNumber(true, "0", "0");
    dueNumber(true, "+0", "0");
    dueNumber(true, "007", "7");
    dueNumber(true, "18446744073709551615", "18446744073709551615");
    dueNumber(true, "+9223372036854775808", "9223372036854775808");
    dueNumber(true, ZEROS + "18446744073709551615", "18446744073709551615");
    dueNumber(false, "4294967295", "4294967295");
    dueNumber(false, "+2147483648", "2147483648");
    dueNumber(false, ZEROS + "4294967295", "4294967295");
  }

  private static void dueNumber(boolean isLong, String text, String want) {
    Bitwords x = Check.type(Check.ofLongs(9), text);
    Check.putShort(x, 0, 9);
    check.due("49: " + text, x.readNumber(isLong, 0), Long.bitCount(Long.parseUnsignedLong(want)));
    check.due("49: its number", x.text(isLong, 0, 3), want);
    check.due("49: that of the other kind stays", x.text(!isLong, 0, 3), "9");
  }

  private static void readNumberRefused() {
    String[] texts = {
      "", "-", "+", "-1", "-0", "++1", "+-1", "1-", "a", "0x1", "#1", "18446744073709551616", "18446744073709551620",
      "99999999999999999999", "36893488147419103232", "9".repeat(80)
    };
    for (String text : texts) {
      for (boolean isLong : new boolean[] {true, false}) {
        Bitwords x = Check.type(Check.ofLongs(9), text);
        check.refuses("49: " + text, x, () -> x.readNumber(isLong, 0));
      }
    }
    for (String text : new String[] {"4294967296", "4294967297", "9999999999", "18446744073709551615"}) {
      Bitwords x = Check.type(new Bitwords(), text);
      check.refuses("49: of a short, " + text, x, () -> x.readNumber(false, 0));
    }
  }

  private static void decode() {
    dueDecoded("0", 0);
    dueDecoded("-0", 0);
    dueDecoded("10", 10);
    dueDecoded("+10", 10);
    dueDecoded("-19", -19);
    dueDecoded("0x10", 16);
    dueDecoded("-0xff", -255);
    dueDecoded("+0x0", 0);
    dueDecoded("#10", 16);
    dueDecoded("-#ff", -255);
    dueDecoded("+#0007", 7);
    dueDecoded("010", 8);
    dueDecoded("-017", -15);
    dueDecoded("00", 0);
    dueDecoded("0007", 7);
    dueDecoded("2147483647", MAX);
    dueDecoded("-0x80000000", MIN);
    dueDecoded("-020000000000", MIN);
    dueDecoded("#7fffffff", MAX);
    dueDecoded("-#8000000000000000", Long.MIN_VALUE);
    dueDecoded("0x7fffffffffffffff", Long.MAX_VALUE);
    dueDecoded("0777777777777777777777", Long.MAX_VALUE);
    dueDecoded("-9223372036854775808", Long.MIN_VALUE);
  }

  private static void dueDecoded(String text, long want) {
    Bitwords x = Check.type(Check.ofLongs(-5), text);
    Check.putShort(x, 0, -5);
    check.due("50: " + text, x.decode(true, 0), Long.bitCount(want));
    check.due("50: its number", x.text(true, 0, 4), Long.toString(want));
    if ((int) want == want) {
      check.due("50: of a short, " + text, x.decode(false, 0), Integer.bitCount((int) want));
      check.due("50: its number", x.text(false, 0, 4), Long.toString(want));
    } else {
      check.refuses("50: of a short, " + text, x, () -> x.decode(false, 0));
    }
    check.due("50: the text in hand stays", x.hand(), text);
  }

  private static void decodeRefused() {
    String[] texts = {
      "", "-", "+", "--1", "+-1", "0x", "-0x", "#", "-#", "0x-1", "0x+1", "#-1", "0-1", "0+1", "08", "09", "0a", "00x1",
      "0#1", "##1", "#0x1", "0x0x1", "0x#1", "x1", "x", "a", "1a", "1-", "1#", "0xg", "#g", "018", "0x8000000000000000",
      "#ffffffffffffffff", "-0x8000000000000001", "01000000000000000000000", "9223372036854775808",
      "-9223372036854775809", "0" + "7".repeat(79)
    };
    for (String text : texts) {
      Bitwords x = Check.type(Check.ofLongs(9), text);
      check.refuses("50: " + text, x, () -> x.decode(true, 0));
      check.refuses("50: of a short, " + text, x, () -> x.decode(false, 0));
    }
  }

  private static void wrongWords() {
    for (int k : new int[] {-1, 4, MIN, MAX}) {
      for (boolean isLong : new boolean[] {true, false}) {
        Bitwords x = Check.type(Check.ofLongs(5, 6, 7, 8), "#");
        check.fails("45: text of " + k + ", what wrong too", x, Check.INDEX, () -> x.text(isLong, k, 5));
        check.fails("46: textIn of " + k + ", base wrong too", x, Check.INDEX, () -> x.textIn(isLong, k, 1));
        check.fails("47: carry of " + k + ", base wrong too", x, Check.INDEX, () -> x.carry(isLong, k, 37));
        check.fails("48: read of " + k + ", base wrong too", x, Check.INDEX, () -> x.read(isLong, k, 1));
        check.fails("48: read of " + k, x, Check.INDEX, () -> x.read(isLong, k, 10));
        check.fails("49: readNumber of " + k, x, Check.INDEX, () -> x.readNumber(isLong, k));
        check.fails("50: decode of " + k, x, Check.INDEX, () -> x.decode(isLong, k));
      }
    }
  }

  private static void wrongChoices() {
    for (int wrong : new int[] {-1, 5, MIN, MAX}) {
      Bitwords x = Check.ofLongs(5);
      check.fails("45: what " + wrong, x, Check.ARGUMENT, () -> x.text(true, 0, wrong));
      check.fails("45: of a short, what " + wrong, x, Check.ARGUMENT, () -> x.text(false, 0, wrong));
    }
    for (int wrong : new int[] {-2, -1, 0, 1, 37, MIN, MAX}) {
      Bitwords x = Check.type(Check.ofLongs(5), "-");
      check.fails("46: base " + wrong, x, Check.ARGUMENT, () -> x.textIn(true, 0, wrong));
      check.fails("47: base " + wrong, x, Check.ARGUMENT, () -> x.carry(true, 0, wrong));
      check.fails("48: base " + wrong + ", not to be read too", x, Check.ARGUMENT, () -> x.read(true, 0, wrong));
      check.fails("48: of a short, base " + wrong, x, Check.ARGUMENT, () -> x.read(false, 0, wrong));
    }
  }
}
