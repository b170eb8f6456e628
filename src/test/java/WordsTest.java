/** Promises 1 to 8: a new object, and words. */
final class WordsTest {
  private static final int MIN = Integer.MIN_VALUE;
  private static final int MAX = Integer.MAX_VALUE;
  private static final Check check = new Check();

  public static void main(String[] args) {
    aNewObject();
    put();
    copy();
    widen();
    narrow();
    digit();
    set();
    ofWord();
    ofEmptyWord();
    period();
    wrongInputs();
    check.end();
  }

  private static void aNewObject() {
    Bitwords x = new Bitwords();
    for (int k = 0; k < 4; k++) {
      check.due("1: long " + k, x.text(true, k, 0), "0");
      check.due("1: short " + k, x.text(false, k, 0), "0");
    }
    check.due("1: hand", x.hand(), "");
    check.due("1: refused", x.house(0), 0);
    check.due("1: knocked", x.house(1), 0);
  }

  private static void put() {
    Bitwords x = new Bitwords();
    check.due("2: put of both halves", x.put(true, 0, 1, MIN), 2);
    check.due("2: its digits", Check.hex(x, true, 0), "180000000");
    check.due("2: put below 0", x.put(true, 3, 0, -1), 32);
    check.due("2: low below 0 stays low", Check.hex(x, true, 3), "ffffffff");
    check.due("2: put high alone", x.put(true, 3, -1, 0), 32);
    check.due("2: its digits", Check.hex(x, true, 3), "ffffffff00000000");
    check.due("2: high is not looked at of a short", x.put(false, 0, -1, 6), 2);
    check.due("2: its digits", Check.hex(x, false, 0), "6");
    check.due("2: a short below 0", x.put(false, 3, 7, -1), 32);
    check.due("2: its digits", Check.hex(x, false, 3), "ffffffff");
    check.due("2: the others stay", x.house(3), 2 + 32 + 2 + 32);
  }

  private static void copy() {
    Bitwords x = Check.ofLongs(0x8000000000000007L, 1);
    check.due("3: copy", x.copy(true, 1, 0), 4);
    check.due("3: its digits", Check.hex(x, true, 1), "8000000000000007");
    check.due("3: of itself", x.copy(true, 1, 1), 4);
    check.due("3: shorts are not longs", x.copy(false, 1, 0), 0);
    Check.putShort(x, 2, -1);
    check.due("3: a short", x.copy(false, 1, 2), 32);
    check.due("3: the longs stay", Check.hex(x, true, 1), "8000000000000007");
  }

  private static void widen() {
    Bitwords x = Check.ofShorts(MIN + 1, MAX);
    Check.putLong(x, 2, -1);
    check.due("4: with 0", x.widen(2, 0, false), 2);
    check.due("4: its digits", Check.hex(x, true, 2), "80000001");
    check.due("4: with that at 31, a 1", x.widen(2, 0, true), 34);
    check.due("4: its digits", Check.hex(x, true, 2), "ffffffff80000001");
    check.due("4: with that at 31, a 0", x.widen(2, 1, true), 31);
    check.due("4: the short stays", Check.hex(x, false, 0), "80000001");
  }

  private static void narrow() {
    Bitwords x = Check.ofLongs(0, 0x80000000fffffffeL);
    check.due("5: the lower ones", x.narrow(3, 1, false), 31);
    check.due("5: its digits", Check.hex(x, false, 3), "fffffffe");
    check.due("5: the higher ones", x.narrow(3, 1, true), 1);
    check.due("5: its digits", Check.hex(x, false, 3), "80000000");
    check.due("5: the long stays", Check.hex(x, true, 1), "80000000fffffffe");
  }

  private static void digit() {
    Bitwords x = Check.ofLongs(0x8000000100000001L);
    Check.putShort(x, 0, MIN + 2);
    int[] ones = {0, 32, 63};
    int[] zeros = {1, 31, 33, 62};
    for (int p : ones) {
      check.due("6: a 1 at " + p, x.digit(true, 0, p), 1);
    }
    for (int p : zeros) {
      check.due("6: a 0 at " + p, x.digit(true, 0, p), 0);
    }
    check.due("6: of a short at 31", x.digit(false, 0, 31), 1);
    check.due("6: of a short at 0", x.digit(false, 0, 0), 0);
  }

  private static void set() {
    Bitwords x = new Bitwords();
    check.due("7: to 1", x.set(true, 1, 63, true), 0);
    check.due("7: to 1 again", x.set(true, 1, 63, true), 1);
    check.due("7: at 32", x.set(true, 1, 32, true), 0);
    check.due("7: its digits", Check.hex(x, true, 1), "8000000100000000");
    check.due("7: to 0", x.set(true, 1, 63, false), 1);
    check.due("7: to 0 again", x.set(true, 1, 63, false), 0);
    check.due("7: its digits", Check.hex(x, true, 1), "100000000");
    check.due("7: of a short", x.set(false, 1, 31, true), 0);
    check.due("7: its digits", Check.hex(x, false, 1), "80000000");
  }

  private static void ofWord() {
    Bitwords x = Check.ofLongs(0x0000000180000010L, -1, 1);
    Check.putShort(x, 0, 0x80000010);
    Check.putShort(x, 1, 0x40000010);
    dueOf(x, true, 0, 3, 31, 4, 32, 4, 1, 0x80000010, 1, 0x80000011, 64);
    dueOf(x, true, 1, 64, 0, 0, 63, 0, -1, -1, -1, 0, 1);
    dueOf(x, true, 2, 1, 63, 0, 0, 0, 1, 1, 0, 1, 64);
    dueOf(x, false, 0, 2, 0, 4, 31, 4, -1, 0x80000010, 0, 0x80000010, 32);
    dueOf(x, false, 1, 2, 1, 4, 30, 4, 1, 0x40000010, 0, 0x40000010, 32);
  }

  private static void ofEmptyWord() {
    dueOf(new Bitwords(), true, 3, 0, 64, 64, -1, -1, 0, 0, 0, 0, 1);
    dueOf(new Bitwords(), false, 3, 0, 32, 32, -1, -1, 0, 0, 0, 0, 1);
  }

  private static void dueOf(Bitwords x, boolean isLong, int k, int... want) {
    for (int what = 0; what < want.length; what++) {
      check.due("8: ofWord(" + isLong + ", " + k + ", " + what + ")", x.ofWord(isLong, k, what), want[what]);
    }
  }

  private static void period() {
    Bitwords x = Check.ofLongs(0x5555555555555555L, 0x1111111111111111L, 0x8000000080000000L, 0x0101010101010101L);
    int[] longs = {2, 4, 32, 8};
    Check.putShort(x, 0, 0xaaaaaaaa);
    Check.putShort(x, 1, 0x00010001);
    Check.putShort(x, 2, 0x00010003);
    Check.putShort(x, 3, -1);
    int[] shorts = {2, 16, 32, 1};
    for (int k = 0; k < 4; k++) {
      check.due("8: rotated to itself, long " + k, x.ofWord(true, k, 9), longs[k]);
      check.due("8: rotated to itself, short " + k, x.ofWord(false, k, 9), shorts[k]);
    }
  }

  private static void wrongInputs() {
    for (int k : new int[] {-1, 4, MIN, MAX}) {
      for (boolean isLong : new boolean[] {true, false}) {
        Bitwords x = Check.ofLongs(5, 6, 7, 8);
        Check.putShort(x, 1, 9);
        check.fails("2: put of " + k, x, Check.INDEX, () -> x.put(isLong, k, 1, 1));
        check.fails("3: copy of " + k, x, Check.INDEX, () -> x.copy(isLong, k, 0));
        check.fails("3: copy from " + k, x, Check.INDEX, () -> x.copy(isLong, 0, k));
        check.fails("4: widen of " + k, x, Check.INDEX, () -> x.widen(k, 1, true));
        check.fails("4: widen from " + k, x, Check.INDEX, () -> x.widen(0, k, true));
        check.fails("5: narrow of " + k, x, Check.INDEX, () -> x.narrow(k, 1, true));
        check.fails("5: narrow from " + k, x, Check.INDEX, () -> x.narrow(0, k, true));
        check.fails("6: digit of " + k, x, Check.INDEX, () -> x.digit(isLong, k, 0));
        check.fails("7: set of " + k, x, Check.INDEX, () -> x.set(isLong, k, 0, true));
        check.fails("8: ofWord of " + k, x, Check.INDEX, () -> x.ofWord(isLong, k, 0));
        check.fails("8: ofWord of " + k + ", what wrong too", x, Check.INDEX, () -> x.ofWord(isLong, k, 10));
      }
    }
    wrongPlaces(true, 64);
    wrongPlaces(false, 32);
    for (int what : new int[] {-1, 10, MIN, MAX}) {
      Bitwords x = Check.ofLongs(5);
      check.fails("8: ofWord, what " + what, x, Check.ARGUMENT, () -> x.ofWord(true, 0, what));
      check.fails("8: ofWord of a short, what " + what, x, Check.ARGUMENT, () -> x.ofWord(false, 0, what));
    }
  }

  private static void wrongPlaces(boolean isLong, int size) {
    for (int place : new int[] {-1, size, MIN, MAX}) {
      Bitwords x = Check.ofLongs(-1);
      Check.putShort(x, 0, -1);
      check.fails("6: digit at " + place, x, Check.INDEX, () -> x.digit(isLong, 0, place));
      check.fails("7: set at " + place, x, Check.INDEX, () -> x.set(isLong, 0, place, false));
    }
  }
}
