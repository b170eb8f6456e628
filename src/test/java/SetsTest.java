/** Promises 9 to 16: sets. */
final class SetsTest {
  private static final int MIN = Integer.MIN_VALUE;
  private static final int MAX = Integer.MAX_VALUE;
  private static final Check check = new Check();

  public static void main(String[] args) {
    mix();
    complement();
    rank();
    select();
    distance();
    areSo();
    areShuffled();
    only();
    nextSet();
    nextSetRefused();
    nextSetGoesThroughAll();
    wrongWords();
    wrongChoices();
    check.end();
  }

  private static void mix() {
    String[] longs = {"8000000000000008", "e00000000000000e", "6000000000000006", "4000000000000004"};
    String[] shorts = {"80000008", "e000000e", "60000006", "40000004"};
    int[] ones = {2, 6, 4, 2};
    for (int how = 0; how < 4; how++) {
      Bitwords x = Check.ofLongs(0xc00000000000000cL, 0xa00000000000000aL);
      check.due("9: long, how " + how, x.mix(true, 0, 1, how), ones[how]);
      check.due("9: its digits", Check.hex(x, true, 0), longs[how]);
      check.due("9: the other one stays", Check.hex(x, true, 1), "a00000000000000a");
      Check.putShort(x, 2, 0xc000000c);
      Check.putShort(x, 3, 0xa000000a);
      check.due("9: short, how " + how, x.mix(false, 2, 3, how), ones[how]);
      check.due("9: its digits", Check.hex(x, false, 2), shorts[how]);
      x.put(true, 3, 0, 5);
      check.due("9: with itself, how " + how, x.mix(true, 3, 3, how), how < 2 ? 2 : 0);
    }
  }

  private static void complement() {
    Bitwords x = Check.ofLongs(0, 0x7fffffffffffffffL);
    check.due("10: of an empty one", x.complement(true, 0), 64);
    check.due("10: of one with 63", x.complement(true, 1), 1);
    check.due("10: its digits", Check.hex(x, true, 1), "8000000000000000");
    check.due("10: of an empty short", x.complement(false, 0), 32);
    check.due("10: its digits", Check.hex(x, false, 0), "ffffffff");
    check.due("10: and back", x.complement(false, 0), 0);
  }

  private static void rank() {
    Bitwords x = Check.ofLongs(0x8000000100000003L, -1);
    int[] places = {0, 1, 2, 32, 33, 63, 64};
    int[] ranks = {0, 1, 2, 2, 3, 3, 4};
    for (int i = 0; i < places.length; i++) {
      check.due("11: below " + places[i], x.rank(true, 0, places[i]), ranks[i]);
      check.due("11: of all ones below " + places[i], x.rank(true, 1, places[i]), places[i]);
    }
    Check.putShort(x, 0, MIN + 1);
    check.due("11: of a short below 31", x.rank(false, 0, 31), 1);
    check.due("11: of a short below 32", x.rank(false, 0, 32), 2);
  }

  private static void select() {
    Bitwords x = Check.ofLongs(0x8000000100000012L, -1);
    int[] selected = {1, 4, 32, 63, -1};
    for (int n = 0; n < selected.length; n++) {
      check.due("12: the one above " + n, x.select(true, 0, n), selected[n]);
    }
    for (int n = 0; n < 64; n++) {
      check.due("12: of all ones, above " + n, x.select(true, 1, n), n);
    }
    for (int n : new int[] {-1, 64, MIN, MAX}) {
      check.due("12: of all ones, above " + n, x.select(true, 1, n), -1);
    }
    check.due("12: of an empty one", x.select(true, 2, 0), -1);
    Check.putShort(x, 0, MIN + 1);
    check.due("12: of a short", x.select(false, 0, 1), 31);
    check.due("12: of a short, none", x.select(false, 0, 2), -1);
  }

  private static void distance() {
    Bitwords x = Check.ofLongs(0x8000000100000003L, 0x0000000100000001L, 0, -1);
    check.due("13: of two", x.distance(true, 0, 1), 2);
    check.due("13: the other way", x.distance(true, 1, 0), 2);
    check.due("13: of itself", x.distance(true, 0, 0), 0);
    check.due("13: the greatest", x.distance(true, 2, 3), 64);
    Check.putShort(x, 0, -1);
    check.due("13: of shorts", x.distance(false, 1, 0), 32);
  }

  private static void areSo() {
    Bitwords x = Check.ofLongs(0x6, 0x16, 0x6000000000000000L, 0);
    boolean[][] ofOneAndTwo = {{false, false, true, false, false}, {true, false, true, false, true}};
    for (int what = 0; what < 5; what++) {
      check.due("14: part of the other, " + what, x.areSo(true, 0, 1, what), ofOneAndTwo[0][what]);
      check.due("14: with itself, " + what, x.areSo(true, 0, 0, what), ofOneAndTwo[1][what]);
    }
    check.due("14: the greater is no part", x.areSo(true, 1, 0, 2), false);
    check.due("14: turned round", x.areSo(true, 0, 2, 3), true);
    check.due("14: turned round the other way", x.areSo(true, 2, 0, 3), true);
    check.due("14: nothing in common", x.areSo(true, 0, 2, 1), true);
    for (int what = 0; what < 5; what++) {
      check.due("14: empty with itself, " + what, x.areSo(true, 3, 3, what), true);
    }
    check.due("14: the empty one is part", x.areSo(true, 3, 0, 2), true);
    check.due("14: and has no part", x.areSo(true, 0, 3, 2), false);
    Check.putShort(x, 0, 6);
    Check.putShort(x, 1, 0x60000000);
    check.due("14: shorts turned round", x.areSo(false, 0, 1, 3), true);
    check.due("14: shorts not the same", x.areSo(false, 0, 1, 0), false);
  }

  private static void areShuffled() {
    for (int times = 0; times < 7; times++) {
      Bitwords x = Check.ofLongs(0x0123456789abcdefL, 0x0123456789abcdefL);
      Check.putShort(x, 0, 0x12345678);
      Check.putShort(x, 1, 0x12345678);
      for (int i = 0; i < times; i++) {
        x.shuffle(true, 0, false);
        x.shuffle(false, 0, false);
      }
      check.due("14: shuffled " + times + " times", x.areSo(true, 0, 1, 4), true);
      check.due("14: and the other way", x.areSo(true, 1, 0, 4), true);
      check.due("14: a short shuffled " + times + " times", x.areSo(false, 0, 1, 4), true);
      x.set(true, 0, 0, x.digit(true, 0, 0) == 0);
      x.set(false, 0, 0, x.digit(false, 0, 0) == 0);
      check.due("14: one digit turned", x.areSo(true, 0, 1, 4), false);
      check.due("14: of a short too", x.areSo(false, 0, 1, 4), false);
    }
  }

  private static void only() {
    Bitwords x = Check.ofLongs(0xc000000000000006L, 0xc000000000000006L, 0);
    check.due("15: the greatest", x.only(true, 0, true), 1);
    check.due("15: its digits", Check.hex(x, true, 0), "8000000000000000");
    check.due("15: the least", x.only(true, 1, false), 1);
    check.due("15: its digits", Check.hex(x, true, 1), "2");
    check.due("15: of an empty one", x.only(true, 2, true), 0);
    check.due("15: of an empty one, the least", x.only(true, 2, false), 0);
    Check.putShort(x, 0, 0xc0000006);
    Check.putShort(x, 1, 0xc0000006);
    check.due("15: of a short", x.only(false, 0, true), 1);
    check.due("15: its digits", Check.hex(x, false, 0), "80000000");
    check.due("15: of a short, the least", x.only(false, 1, false), 1);
    check.due("15: its digits", Check.hex(x, false, 1), "2");
  }

  private static void nextSet() {
    dueNext(0x1, "2", 1);
    dueNext(0x3, "5", 0);
    dueNext(0x6, "9", 0);
    dueNext(0xc, "11", 0);
    dueNext(0x5c, "63", 0);
    dueNext(0x4000000000000000L, "8000000000000000", 63);
    dueNext(0x6000000000000000L, "8000000000000001", 0);
    dueNext(0x7fffffffffffffffL, "bfffffffffffffff", 0);
    dueNext(0xbfffffffffffffffL, "dfffffffffffffff", 0);
    dueNext(0x9000000000000000L, "a000000000000000", 61);
    Bitwords x = Check.ofShorts(0x40000000, 0x60000000, MAX, 0x90000000);
    String[] next = {"80000000", "80000001", "bfffffff", "a0000000"};
    int[] least = {31, 0, 0, 29};
    for (int k = 0; k < 4; k++) {
      check.due("16: of short " + k, x.nextSet(false, k), least[k]);
      check.due("16: its digits", Check.hex(x, false, k), next[k]);
    }
  }

  private static void dueNext(long w, String next, int least) {
    Bitwords x = Check.ofLongs(w);
    check.due("16: of " + Long.toHexString(w), x.nextSet(true, 0), least);
    check.due("16: its digits", Check.hex(x, true, 0), next);
  }

  private static void nextSetRefused() {
    for (long w : new long[] {0, -1, 1L << 63, 3L << 62, -16, -2}) {
      Bitwords x = Check.ofLongs(w);
      check.refuses("16: of " + Long.toHexString(w), x, () -> x.nextSet(true, 0));
    }
    for (int w : new int[] {0, -1, MIN, 3 << 30, -16, -2}) {
      Bitwords x = Check.ofShorts(w);
      check.refuses("16: of a short " + Integer.toHexString(w), x, () -> x.nextSet(false, 0));
    }
  }

  /** From the least short with two ones to the greatest: all 496 come up, each greater than the one before. */
  private static void nextSetGoesThroughAll() {
    Bitwords x = Check.ofShorts(3);
    long before = 3;
    int seen = 1;
    while (seen < 496 && x.nextSet(false, 0) >= 0) {
      long now = x.ofWord(false, 0, 6) & 0xffffffffL;
      check.due("16: two ones in " + now, Long.bitCount(now) == 2 && now > before, true);
      before = now;
      seen++;
      if (seen % 200 == 0) {
        x = Check.ofShorts((int) now);
      }
    }
    check.due("16: how many with two ones", seen, 496);
    check.due("16: the last of them", Check.hex(x, false, 0), "c0000000");
    check.due("16: and none behind", x.nextSet(false, 0), -9);
  }

  private static void wrongWords() {
    for (int k : new int[] {-1, 4, MIN, MAX}) {
      for (boolean isLong : new boolean[] {true, false}) {
        Bitwords x = Check.ofLongs(5, 6, 7, 8);
        Check.putShort(x, 1, 9);
        check.fails("9: mix of " + k, x, Check.INDEX, () -> x.mix(isLong, k, 0, 2));
        check.fails("9: mix from " + k + ", how wrong too", x, Check.INDEX, () -> x.mix(isLong, 0, k, 4));
        check.fails("10: complement of " + k, x, Check.INDEX, () -> x.complement(isLong, k));
        check.fails("11: rank of " + k, x, Check.INDEX, () -> x.rank(isLong, k, 0));
        check.fails("12: select of " + k, x, Check.INDEX, () -> x.select(isLong, k, 0));
        check.fails("13: distance of " + k, x, Check.INDEX, () -> x.distance(isLong, k, 0));
        check.fails("13: distance to " + k, x, Check.INDEX, () -> x.distance(isLong, 0, k));
        check.fails("14: areSo of " + k + ", what wrong too", x, Check.INDEX, () -> x.areSo(isLong, k, 0, 5));
        check.fails("14: areSo with " + k, x, Check.INDEX, () -> x.areSo(isLong, 0, k, 0));
        check.fails("15: only of " + k, x, Check.INDEX, () -> x.only(isLong, k, true));
        check.fails("16: nextSet of " + k, x, Check.INDEX, () -> x.nextSet(isLong, k));
      }
    }
  }

  private static void wrongChoices() {
    for (int wrong : new int[] {-1, 4, MIN, MAX}) {
      Bitwords x = Check.ofLongs(5, 6);
      check.fails("9: how " + wrong, x, Check.ARGUMENT, () -> x.mix(true, 0, 1, wrong));
      check.fails("9: of shorts, how " + wrong, x, Check.ARGUMENT, () -> x.mix(false, 0, 1, wrong));
    }
    for (int wrong : new int[] {-1, 5, MIN, MAX}) {
      Bitwords x = Check.ofLongs(5, 6);
      check.fails("14: what " + wrong, x, Check.ARGUMENT, () -> x.areSo(true, 0, 1, wrong));
    }
    for (int wrong : new int[] {-1, 65, MIN, MAX}) {
      Bitwords x = Check.ofLongs(5, 6);
      check.fails("11: below " + wrong, x, Check.INDEX, () -> x.rank(true, 0, wrong));
    }
    for (int wrong : new int[] {-1, 33, 64, MIN, MAX}) {
      Bitwords x = Check.ofShorts(5, 6);
      check.fails("11: of a short below " + wrong, x, Check.INDEX, () -> x.rank(false, 0, wrong));
    }
  }
}
