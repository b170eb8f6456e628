/** Promises 17 to 27: places. */
final class PlacesTest {
  private static final int MIN = Integer.MIN_VALUE;
  private static final int MAX = Integer.MAX_VALUE;
  private static final long MIXED = 0x0123456789abcdefL;
  private static final Check check = new Check();

  public static void main(String[] args) {
    reverse();
    reverseBytes();
    rotate();
    turnsTo();
    shift();
    swap();
    swapsOfSinglePlaces();
    shuffle();
    shufflesOfSinglePlaces();
    weave();
    unweave();
    gray();
    step();
    stepsThroughNumbers();
    wrongWords();
    wrongChoices();
    check.end();
  }

  private static void reverse() {
    Bitwords x = Check.ofLongs(MIXED, 1);
    check.due("17: of a long", x.reverse(true, 0), 7);
    check.due("17: its digits", Check.hex(x, true, 0), "f7b3d591e6a2c480");
    check.due("17: of 1", x.reverse(true, 1), 63);
    check.due("17: of an empty one", x.reverse(true, 2), -1);
    Check.putShort(x, 0, 0x01234567);
    check.due("17: of a short", x.reverse(false, 0), 7);
    check.due("17: its digits", Check.hex(x, false, 0), "e6a2c480");
    check.due("17: of an empty short", x.reverse(false, 1), -1);
  }

  private static void reverseBytes() {
    Bitwords x = Check.ofLongs(MIXED);
    check.due("18: of a long", x.reverseBytes(true, 0), 0);
    check.due("18: its digits", Check.hex(x, true, 0), "efcdab8967452301");
    check.due("18: of an empty one", x.reverseBytes(true, 2), -1);
    Check.putShort(x, 0, 0x12345600);
    check.due("18: of a short", x.reverseBytes(false, 0), 1);
    check.due("18: its digits", Check.hex(x, false, 0), "563412");
    check.due("18: of an empty short", x.reverseBytes(false, 1), -1);
  }

  private static void rotate() {
    dueRotated(true, 4, "123456789abcdef0", 4);
    dueRotated(true, 0, "123456789abcdef", 0);
    dueRotated(true, 64, "123456789abcdef", 0);
    dueRotated(true, -4, "f0123456789abcde", 1);
    dueRotated(true, 68, "123456789abcdef0", 4);
    dueRotated(true, MIN, "123456789abcdef", 0);
    dueRotated(true, MIN + 4, "123456789abcdef0", 4);
    dueRotated(true, MAX, "8091a2b3c4d5e6f7", 0);
    dueRotated(true, 63, "8091a2b3c4d5e6f7", 0);
    dueRotated(false, 4, "9abcdef8", 3);
    dueRotated(false, 0, "89abcdef", 0);
    dueRotated(false, 32, "89abcdef", 0);
    dueRotated(false, 36, "9abcdef8", 3);
    dueRotated(false, -4, "f89abcde", 1);
    dueRotated(false, MIN, "89abcdef", 0);
    dueRotated(false, MAX, "c4d5e6f7", 0);
    Bitwords x = new Bitwords();
    check.due("19: of an empty one", x.rotate(true, 0, 5), -1);
    check.due("19: of an empty short", x.rotate(false, 0, 5), -1);
  }

  private static void dueRotated(boolean isLong, int by, String digits, int least) {
    Bitwords x = Check.ofLongs(MIXED);
    Check.putShort(x, 0, (int) MIXED);
    check.due("19: by " + by, x.rotate(isLong, 0, by), least);
    check.due("19: its digits", Check.hex(x, isLong, 0), digits);
  }

  private static void turnsTo() {
    for (int by = 0; by < 64; by++) {
      Bitwords x = Check.ofLongs(MIXED, Long.rotateLeft(MIXED, by));
      Check.putShort(x, 2, 0x12345678);
      Check.putShort(x, 3, Integer.rotateLeft(0x12345678, by));
      check.due("20: by " + by, x.turnsTo(true, 0, 1), by);
      check.due("20: back", x.turnsTo(true, 1, 0), (64 - by) % 64);
      check.due("20: of a short by " + by, x.turnsTo(false, 2, 3), by % 32);
    }
    Bitwords x = Check.ofLongs(5, 3, 0x1111111111111111L, 0x4444444444444444L);
    check.due("20: with as many ones", x.turnsTo(true, 0, 1), -1);
    check.due("20: the least of many", x.turnsTo(true, 2, 3), 2);
    check.due("20: to itself", x.turnsTo(true, 2, 2), 0);
    check.due("20: of empty shorts", x.turnsTo(false, 2, 3), 0);
  }

  private static void shift() {
    dueShifted(true, 4, 0, "123456789abcdef0");
    dueShifted(true, 63, 0, "8000000000000000");
    dueShifted(true, 0, 0, "8123456789abcdef");
    dueShifted(true, 4, 1, "8123456789abcde");
    dueShifted(true, 63, 1, "1");
    dueShifted(true, 0, 1, "8123456789abcdef");
    dueShifted(true, 4, 2, "f8123456789abcde");
    dueShifted(true, 63, 2, "ffffffffffffffff");
    dueShifted(true, 32, 2, "ffffffff81234567");
    dueShifted(false, 4, 0, "9abcdef0");
    dueShifted(false, 31, 0, "80000000");
    dueShifted(false, 4, 1, "89abcde");
    dueShifted(false, 31, 1, "1");
    dueShifted(false, 4, 2, "f89abcde");
    dueShifted(false, 31, 2, "ffffffff");
    Bitwords x = Check.ofShorts(0x70000000);
    check.due("21: of a short without a digit at 31", x.shift(false, 0, 28, 2), 3);
    check.due("21: its digits", Check.hex(x, false, 0), "7");
  }

  private static void dueShifted(boolean isLong, int by, int how, String digits) {
    int ones = Long.bitCount(Long.parseUnsignedLong(digits, 16));
    Bitwords x = Check.ofLongs(0x8123456789abcdefL);
    Check.putShort(x, 0, 0x89abcdef);
    check.due("21: by " + by + ", how " + how, x.shift(isLong, 0, by, how), ones);
    check.due("21: its digits", Check.hex(x, isLong, 0), digits);
    check.due("21: the other kind stays", Check.hex(x, !isLong, 0), isLong ? "89abcdef" : "8123456789abcdef");
  }

  private static void swap() {
    String[] longs = {
      "2138a9b4657cedf", "48c159d26ae37bf", "1032547698badcfe", "23016745ab89efcd", "45670123cdef89ab",
      "89abcdef01234567"
    };
    int[] least = {0, 0, 1, 0, 0, 0};
    for (int width = 0; width < 6; width++) {
      Bitwords x = Check.ofLongs(MIXED);
      check.due("22: by " + width, x.swap(true, 0, width), least[width]);
      check.due("22: its digits", Check.hex(x, true, 0), longs[width]);
      check.due("22: of an empty one", x.swap(true, 1, width), -1);
    }
    Bitwords x = Check.ofShorts(0x01234567);
    check.due("22: of a short by 4", x.swap(false, 0, 4), 0);
    check.due("22: its digits", Check.hex(x, false, 0), "45670123");
    check.due("22: of an empty short by 4", x.swap(false, 1, 4), -1);
  }

  private static void swapsOfSinglePlaces() {
    for (int p = 0; p < 64; p++) {
      for (int width = 0; width < 6; width++) {
        Bitwords x = Check.ofLongs(1L << p);
        check.due("22: the one at " + p + " by " + width, x.swap(true, 0, width), p ^ (1 << width));
        if (p < 32 && width < 5) {
          Check.putShort(x, 0, 1 << p);
          check.due("22: of a short at " + p + " by " + width, x.swap(false, 0, width), p ^ (1 << width));
        }
      }
    }
  }

  private static void shuffle() {
    Bitwords x = Check.ofLongs(0xffffffff00000000L);
    check.due("23: of a long", x.shuffle(true, 0, false), 1);
    check.due("23: its digits", Check.hex(x, true, 0), "aaaaaaaaaaaaaaaa");
    check.due("23: back", x.shuffle(true, 0, true), 32);
    check.due("23: its digits", Check.hex(x, true, 0), "ffffffff00000000");
    Check.putShort(x, 0, 0x0000ffff);
    check.due("23: of a short", x.shuffle(false, 0, false), 0);
    check.due("23: its digits", Check.hex(x, false, 0), "55555555");
    check.due("23: back", x.shuffle(false, 0, true), 0);
    check.due("23: its digits", Check.hex(x, false, 0), "ffff");
    check.due("23: of an empty one", x.shuffle(true, 3, false), -1);
    check.due("23: of an empty one, back", x.shuffle(false, 3, true), -1);
  }

  private static void shufflesOfSinglePlaces() {
    for (int p = 0; p < 64; p++) {
      Bitwords x = Check.ofLongs(1L << p);
      check.due("23: the one at " + p, x.shuffle(true, 0, false), p < 32 ? 2 * p : 2 * (p - 32) + 1);
      check.due("23: and back", x.shuffle(true, 0, true), p);
      check.due("23: " + p + " back alone", x.shuffle(true, 0, true), p % 2 == 0 ? p / 2 : p / 2 + 32);
      if (p < 32) {
        Check.putShort(x, 0, 1 << p);
        check.due("23: of a short at " + p, x.shuffle(false, 0, false), p < 16 ? 2 * p : 2 * (p - 16) + 1);
        check.due("23: and back", x.shuffle(false, 0, true), p);
        check.due("23: " + p + " back alone", x.shuffle(false, 0, true), p % 2 == 0 ? p / 2 : p / 2 + 16);
      }
    }
  }

  private static void weave() {
    Bitwords x = Check.ofShorts(-1, 0, MIN + 1, 6);
    check.due("24: ones at even places", x.weave(0, 0, 1), 32);
    check.due("24: its digits", Check.hex(x, true, 0), "5555555555555555");
    check.due("24: ones at odd places", x.weave(1, 1, 0), 32);
    check.due("24: its digits", Check.hex(x, true, 1), "aaaaaaaaaaaaaaaa");
    check.due("24: both", x.weave(2, 2, 3), 4);
    check.due("24: its digits", Check.hex(x, true, 2), "4000000000000029");
    check.due("24: of one twice", x.weave(3, 2, 2), 4);
    check.due("24: its digits", Check.hex(x, true, 3), "c000000000000003");
  }

  private static void unweave() {
    Bitwords x = Check.ofLongs(0x4000000000000029L, 0xaaaaaaaaaaaaaaaaL);
    check.due("25: the even places", x.unweave(0, 0, false), 2);
    check.due("25: its digits", Check.hex(x, false, 0), "80000001");
    check.due("25: the odd places", x.unweave(1, 0, true), 2);
    check.due("25: its digits", Check.hex(x, false, 1), "6");
    check.due("25: no ones at even places", x.unweave(1, 1, false), 0);
    check.due("25: all ones at odd places", x.unweave(1, 1, true), 32);
    check.due("25: its digits", Check.hex(x, false, 1), "ffffffff");
  }

  private static void gray() {
    Bitwords x = Check.ofLongs(-1, 0x8000000000000000L, 10);
    check.due("26: of all ones", x.gray(true, 0, false), 1);
    check.due("26: its digits", Check.hex(x, true, 0), "8000000000000000");
    check.due("26: back", x.gray(true, 1, true), 64);
    check.due("26: of 10", x.gray(true, 2, false), 4);
    check.due("26: its digits", Check.hex(x, true, 2), "f");
    check.due("26: back", x.gray(true, 2, true), 2);
    check.due("26: its digits", Check.hex(x, true, 2), "a");
    Check.putShort(x, 0, -1);
    check.due("26: of a short", x.gray(false, 0, false), 1);
    check.due("26: its digits", Check.hex(x, false, 0), "80000000");
    check.due("26: back", x.gray(false, 0, true), 32);
    check.due("26: of an empty one", x.gray(true, 3, false), 0);
  }

  private static void step() {
    Bitwords x = Check.ofLongs(0x8000000000000000L, 0x4000000000000000L);
    Check.putShort(x, 0, MIN);
    Check.putShort(x, 1, MIN >>> 1);
    check.due("27: from the greatest", x.step(true, 0), 63);
    check.due("27: its digits", Check.hex(x, true, 0), "0");
    check.due("27: from 0", x.step(true, 0), 0);
    check.due("27: into the upper half", x.step(true, 1), 63);
    check.due("27: its digits", Check.hex(x, true, 1), "c000000000000000");
    check.due("27: of a short from the greatest", x.step(false, 0), 31);
    check.due("27: its digits", Check.hex(x, false, 0), "0");
    check.due("27: of a short into the upper half", x.step(false, 1), 31);
    check.due("27: its digits", Check.hex(x, false, 1), "c0000000");
    Bitwords y = Check.ofLongs(0xc000000000000001L);
    check.due("27: a last one goes up", y.step(true, 0), 1);
    check.due("27: its digits", Check.hex(y, true, 0), "c000000000000003");
  }

  private static void stepsThroughNumbers() {
    Bitwords x = new Bitwords();
    for (int n = 0; n < 100; n++) {
      int changed = Integer.numberOfTrailingZeros(n + 1);
      check.due("27: from " + n, x.step(true, 0), changed);
      check.due("27: of a short from " + n, x.step(false, 0), changed);
      check.due("27: the gray of " + (n + 1), x.ofWord(true, 0, 6), (n + 1) ^ ((n + 1) >> 1));
      check.due("27: of a short the gray of " + (n + 1), x.ofWord(false, 0, 6), (n + 1) ^ ((n + 1) >> 1));
    }
  }

  private static void wrongWords() {
    for (int k : new int[] {-1, 4, MIN, MAX}) {
      for (boolean isLong : new boolean[] {true, false}) {
        Bitwords x = Check.ofLongs(5, 6, 7, 8);
        Check.putShort(x, 1, 9);
        check.fails("17: reverse of " + k, x, Check.INDEX, () -> x.reverse(isLong, k));
        check.fails("18: reverseBytes of " + k, x, Check.INDEX, () -> x.reverseBytes(isLong, k));
        check.fails("19: rotate of " + k, x, Check.INDEX, () -> x.rotate(isLong, k, 1));
        check.fails("20: turnsTo of " + k, x, Check.INDEX, () -> x.turnsTo(isLong, k, 0));
        check.fails("20: turnsTo to " + k, x, Check.INDEX, () -> x.turnsTo(isLong, 0, k));
        check.fails("21: shift of " + k + ", by wrong too", x, Check.INDEX, () -> x.shift(isLong, k, 64, 0));
        check.fails("22: swap of " + k + ", width wrong too", x, Check.INDEX, () -> x.swap(isLong, k, 6));
        check.fails("23: shuffle of " + k, x, Check.INDEX, () -> x.shuffle(isLong, k, false));
        check.fails("26: gray of " + k, x, Check.INDEX, () -> x.gray(isLong, k, false));
        check.fails("27: step of " + k, x, Check.INDEX, () -> x.step(isLong, k));
      }
      Bitwords x = Check.ofLongs(5, 6, 7, 8);
      Check.putShort(x, 1, 9);
      check.fails("24: weave of " + k, x, Check.INDEX, () -> x.weave(k, 0, 1));
      check.fails("24: weave of even " + k, x, Check.INDEX, () -> x.weave(0, k, 1));
      check.fails("24: weave of odd " + k, x, Check.INDEX, () -> x.weave(0, 1, k));
      check.fails("25: unweave of " + k, x, Check.INDEX, () -> x.unweave(k, 0, true));
      check.fails("25: unweave from " + k, x, Check.INDEX, () -> x.unweave(0, k, true));
    }
  }

  private static void wrongChoices() {
    for (int wrong : new int[] {-1, 64, MIN, MAX}) {
      Bitwords x = Check.ofLongs(-1);
      check.fails("21: by " + wrong, x, Check.ARGUMENT, () -> x.shift(true, 0, wrong, 0));
    }
    for (int wrong : new int[] {-1, 32, 63, MIN, MAX}) {
      Bitwords x = Check.ofShorts(-1);
      check.fails("21: of a short by " + wrong, x, Check.ARGUMENT, () -> x.shift(false, 0, wrong, 1));
    }
    for (int wrong : new int[] {-1, 3, MIN, MAX}) {
      Bitwords x = Check.ofLongs(-1);
      check.fails("21: how " + wrong, x, Check.ARGUMENT, () -> x.shift(true, 0, 1, wrong));
    }
    for (int wrong : new int[] {-1, 6, MIN, MAX}) {
      Bitwords x = Check.ofLongs(7);
      check.fails("22: width " + wrong, x, Check.ARGUMENT, () -> x.swap(true, 0, wrong));
    }
    for (int wrong : new int[] {-1, 5, 6, MIN, MAX}) {
      Bitwords x = Check.ofShorts(7);
      check.fails("22: of a short, width " + wrong, x, Check.ARGUMENT, () -> x.swap(false, 0, wrong));
    }
  }
}
