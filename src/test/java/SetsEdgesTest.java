/** Promises 9 to 16, sentence by sentence, with the boundaries of each. */
final class SetsEdgesTest {
  private static final String NO_WORD = "Throws `IndexOutOfBoundsException` if there is no such WORD";
  private static final String NO_WORDS = "Throws `IndexOutOfBoundsException` if there is no such WORD (both)";
  private static final String NO_RANK =
      "Throws `IndexOutOfBoundsException` if there is no such WORD, or place is not 0 to SIZE";
  private static final String NO_NEXT =
      "Returns its least ONE then; REFUSED if there is no such NUMBER below 2^SIZE (also of an EMPTY one).";
  private static final Edges edges = new Edges();

  public static void main(String[] args) {
    edges.says(9, "A WORD and another one, PLACE by PLACE: and, or, xor, and not.", SetsEdgesTest::mixPlaceByPlace);
    edges.says(9, "0 ONES that both have", SetsEdgesTest::both);
    edges.says(9, "1 that one of them has", SetsEdgesTest::oneOfThem);
    edges.says(9, "2 that just one has", SetsEdgesTest::justOne);
    edges.says(9, "3 its own ones that the other one has not", SetsEdgesTest::itsOwn);
    edges.says(9, "Returns how many ONES.", SetsEdgesTest::mixWithItself);
    edges.says(9, NO_WORDS, SetsEdgesTest::mixOfNoWord);
    edges.says(9, NO_WORDS, SetsEdgesTest::mixFromNoWord);
    edges.says(9, "Throws `IllegalArgumentException` if how is not 0 to 3", SetsEdgesTest::mixWithoutSense);
    edges.says(10, "Each digit becomes the other one.", SetsEdgesTest::complementEnds);
    edges.says(10, "Returns how many ONES.", SetsEdgesTest::complementOfEmptyAndAll);
    edges.says(10, NO_WORD, SetsEdgesTest::complementOfNoWord);
    edges.says(11, "a PLACE, or SIZE", SetsEdgesTest::rankEnds);
    edges.says(11, "Returns its RANK.", SetsEdgesTest::rankOfEmptyAndAll);
    edges.says(11, NO_RANK, SetsEdgesTest::rankOfNoWord);
    edges.says(11, NO_RANK, SetsEdgesTest::rankOfNoPlace);
    edges.says(12, "Returns SELECT n; NONE if there is none.", SetsEdgesTest::selectEnds);
    edges.says(12, "a number", SetsEdgesTest::selectAnyNumber);
    edges.says(12, NO_WORD, SetsEdgesTest::selectOfNoWord);
    edges.says(13, "Returns at how many PLACES they have unlike digits.", SetsEdgesTest::distanceEnds);
    edges.says(13, NO_WORDS, SetsEdgesTest::distanceOfNoWord);
    edges.says(13, NO_WORDS, SetsEdgesTest::distanceToNoWord);
    edges.says(14, "0 they are the same", SetsEdgesTest::areTheSame);
    edges.says(14, "1 they have no ONE in common", SetsEdgesTest::haveNoneInCommon);
    edges.says(14, "2 each ONE of a is one of b", SetsEdgesTest::isPart);
    edges.says(14, "3 a turned round is b", SetsEdgesTest::isTurnedRound);
    edges.says(14, "4 a is b shuffled as often as one likes", SetsEdgesTest::isShuffled);
    edges.says(14, "Returns whether it is so.", SetsEdgesTest::areSoChangesNothing);
    edges.says(14, NO_WORDS, SetsEdgesTest::areSoOfNoWord);
    edges.says(14, NO_WORDS, SetsEdgesTest::areSoWithNoWord);
    edges.says(14, "Throws `IllegalArgumentException` if what is not 0 to 4", SetsEdgesTest::areSoWithoutSense);
    edges.says(15, "Of a WORD one ONE stays alone", SetsEdgesTest::onlyOfEachPair);
    edges.says(15, "(none of an EMPTY one)", SetsEdgesTest::onlyOfEmpty);
    edges.says(15, "whether the greatest one, otherwise the least", SetsEdgesTest::onlyEnds);
    edges.says(15, "Returns how many ONES.", SetsEdgesTest::onlyTellsNoneOrOne);
    edges.says(15, NO_WORD, SetsEdgesTest::onlyOfNoWord);
    edges.says(16, "A WORD becomes the next greater NUMBER that has as many ONES.", SetsEdgesTest::nextSetUpToTheLast);
    edges.says(16, NO_NEXT, SetsEdgesTest::nextSetRefused);
    edges.says(16, NO_NEXT, SetsEdgesTest::nextSetRefusedOfEmpty);
    edges.says(16, NO_NEXT, SetsEdgesTest::nextSetTellsTheLeast);
    edges.says(16, NO_WORD, SetsEdgesTest::nextSetOfNoWord);
    edges.end(9, 16);
  }

  // ---- 9 mix

  /** Of each pair of an empty word, 1, the one with the ONE at SIZE - 1 alone, and all ONES. */
  private static void dueMixed(int how, boolean isLong, long... want) {
    long[] words = {0, 1, Edges.top(isLong), Edges.all(isLong)};
    for (int i = 0; i < want.length; i++) {
      long w = words[i / 4];
      long other = words[i % 4];
      Bitwords x = Edges.of(isLong, w, other);
      String call = Long.toHexString(w) + " and " + Long.toHexString(other);
      edges.makes(call, x, isLong, x.mix(isLong, 0, 1, how), Edges.onesOf(want[i]), want[i]);
      edges.due(call + ", the other one stays", Check.hex(x, isLong, 1), Long.toHexString(other));
    }
  }

  /** What comes of the digits 0 and 0, 0 and 1, 1 and 0, 1 and 1, at each PLACE alone. */
  private static void mixPlaceByPlace() {
    int[][] then = {{0, 0, 0, 1}, {0, 1, 1, 1}, {0, 1, 1, 0}, {0, 0, 1, 0}};
    for (boolean isLong : Edges.KINDS) {
      for (int p = 0; p < Edges.sizeOf(isLong); p++) {
        for (int i = 0; i < 16; i++) {
          int how = i / 4;
          long w = (i / 2 % 2L) << p;
          long other = (i % 2L) << p;
          int want = then[how][i % 4];
          Bitwords x = Edges.of(isLong, w, other);
          String call = i / 2 % 2 + " and " + i % 2 + " at " + p + ", how " + how;
          edges.makes(call, x, isLong, x.mix(isLong, 0, 1, how), want, (long) want << p);
        }
      }
    }
  }

  private static void both() {
    for (boolean isLong : Edges.KINDS) {
      long top = Edges.top(isLong);
      long all = Edges.all(isLong);
      dueMixed(0, isLong, 0, 0, 0, 0, 0, 1, 0, 1, 0, 0, top, top, 0, 1, top, all);
    }
  }

  private static void oneOfThem() {
    for (boolean isLong : Edges.KINDS) {
      long top = Edges.top(isLong);
      long all = Edges.all(isLong);
      long ends = top | 1;
      dueMixed(1, isLong, 0, 1, top, all, 1, 1, ends, all, top, ends, top, all, all, all, all, all);
    }
  }

  private static void justOne() {
    for (boolean isLong : Edges.KINDS) {
      long top = Edges.top(isLong);
      long all = Edges.all(isLong);
      long ends = top | 1;
      long noFirst = all - 1;
      long noLast = all - top;
      dueMixed(2, isLong, 0, 1, top, all, 1, 0, ends, noFirst, top, ends, 0, noLast, all, noFirst, noLast, 0);
    }
  }

  private static void itsOwn() {
    for (boolean isLong : Edges.KINDS) {
      long top = Edges.top(isLong);
      long all = Edges.all(isLong);
      dueMixed(3, isLong, 0, 0, 0, 0, 1, 0, 1, 0, top, top, 0, 0, all, all - 1, all - top, 0);
    }
  }

  private static void mixWithItself() {
    for (boolean isLong : Edges.KINDS) {
      for (long w : new long[] {0, 1, Edges.top(isLong), Edges.all(isLong)}) {
        for (int how = 0; how < 4; how++) {
          long then = how < 2 ? w : 0;
          Bitwords x = Edges.of(isLong, w);
          edges.makes("how " + how, x, isLong, x.mix(isLong, 0, 0, how), Edges.onesOf(then), then);
        }
      }
    }
  }

  private static void mixOfNoWord() {
    edges.wordsEnd((x, isLong, k) -> x.mix(isLong, k, 0, 2));
    Bitwords x = Edges.busy();
    edges.fails("ahead of how -1", x, Check.INDEX, () -> x.mix(true, 4, 0, -1));
    edges.fails("ahead of how 4", x, Check.INDEX, () -> x.mix(false, -1, 0, 4));
  }

  private static void mixFromNoWord() {
    edges.wordsEnd((x, isLong, k) -> x.mix(isLong, 1, k, 0));
    Bitwords x = Edges.busy();
    edges.fails("ahead of how -1", x, Check.INDEX, () -> x.mix(true, 0, 4, -1));
    edges.fails("ahead of how 4", x, Check.INDEX, () -> x.mix(false, 0, -1, 4));
  }

  private static void mixWithoutSense() {
    for (boolean isLong : Edges.KINDS) {
      edges.numbersEnd(0, 3, Check.ARGUMENT, (x, how) -> x.mix(isLong, 0, 1, how));
    }
  }

  // ---- 10 complement

  private static void complementEnds() {
    for (boolean isLong : Edges.KINDS) {
      long noLast = Edges.all(isLong) - Edges.top(isLong);
      int ones = Edges.sizeOf(isLong) - 1;
      Bitwords x = Edges.of(isLong, 1);
      edges.makes("of 1", x, isLong, x.complement(isLong, 0), ones, Edges.all(isLong) - 1);
      Bitwords y = Edges.of(isLong, Edges.top(isLong));
      edges.makes("of the last alone", y, isLong, y.complement(isLong, 0), ones, noLast);
      edges.makes("and back", y, isLong, y.complement(isLong, 0), 1, Edges.top(isLong));
    }
  }

  private static void complementOfEmptyAndAll() {
    for (boolean isLong : Edges.KINDS) {
      Bitwords x = new Bitwords();
      edges.makes("of an empty one", x, isLong, x.complement(isLong, 0), Edges.sizeOf(isLong), Edges.all(isLong));
      edges.due("ONES of all", x.house(3), Edges.sizeOf(isLong));
      edges.makes("of all", x, isLong, x.complement(isLong, 0), 0, 0);
    }
  }

  private static void complementOfNoWord() {
    edges.wordsEnd((x, isLong, k) -> x.complement(isLong, k));
  }

  // ---- 11 rank, 12 select

  private static void rankEnds() {
    for (boolean isLong : Edges.KINDS) {
      int size = Edges.sizeOf(isLong);
      Bitwords x = Edges.of(isLong, Edges.top(isLong) | 1);
      int[] places = {0, 1, size - 1, size};
      int[] ranks = {0, 1, 1, 2};
      for (int i = 0; i < places.length; i++) {
        edges.due(Edges.nameOf(isLong) + " at " + places[i], x.rank(isLong, 0, places[i]), ranks[i]);
      }
    }
  }

  private static void rankOfEmptyAndAll() {
    for (boolean isLong : Edges.KINDS) {
      Bitwords x = Edges.of(isLong, 0, Edges.all(isLong));
      for (int place = 0; place <= Edges.sizeOf(isLong); place++) {
        edges.due("of an empty one at " + place, x.rank(isLong, 0, place), 0);
        edges.due("of all at " + place, x.rank(isLong, 1, place), place);
      }
    }
  }

  private static void rankOfNoWord() {
    edges.wordsEnd((x, isLong, k) -> x.rank(isLong, k, 0));
    edges.wordsEnd((x, isLong, k) -> x.rank(isLong, k, isLong ? 64 : 32));
  }

  private static void rankOfNoPlace() {
    edges.numbersEnd(0, 64, Check.INDEX, (x, place) -> x.rank(true, 2, place));
    edges.numbersEnd(0, 32, Check.INDEX, (x, place) -> x.rank(false, 2, place));
  }

  private static void selectEnds() {
    for (boolean isLong : Edges.KINDS) {
      int last = Edges.sizeOf(isLong) - 1;
      Bitwords x = Edges.of(isLong, Edges.top(isLong) | 1, 0, 1, Edges.all(isLong));
      dueSelected(x, isLong, 0, new int[] {-1, 0, 1, 2}, new int[] {-1, 0, last, -1});
      dueSelected(x, isLong, 1, new int[] {-1, 0, 1}, new int[] {-1, -1, -1});
      dueSelected(x, isLong, 2, new int[] {-1, 0, 1}, new int[] {-1, 0, -1});
      dueSelected(x, isLong, 3, new int[] {-1, 0, last, last + 1}, new int[] {-1, 0, last, -1});
    }
  }

  private static void dueSelected(Bitwords x, boolean isLong, int k, int[] n, int[] want) {
    for (int i = 0; i < n.length; i++) {
      edges.due(Edges.nameOf(isLong) + " " + k + ", n " + n[i], x.select(isLong, k, n[i]), want[i]);
    }
  }

  private static void selectAnyNumber() {
    for (boolean isLong : Edges.KINDS) {
      Bitwords x = Edges.of(isLong, Edges.all(isLong));
      for (int n : new int[] {-2, -64, 65, 128, Edges.MIN, Edges.MIN + 1, Edges.MAX}) {
        edges.due(Edges.nameOf(isLong) + ", n " + n, x.select(isLong, 0, n), Edges.NONE);
      }
      edges.due("which is not REFUSED", x.house(0), 0);
    }
  }

  private static void selectOfNoWord() {
    edges.wordsEnd((x, isLong, k) -> x.select(isLong, k, 0));
    edges.wordsEnd((x, isLong, k) -> x.select(isLong, k, -1));
  }

  // ---- 13 distance

  private static void distanceEnds() {
    for (boolean isLong : Edges.KINDS) {
      int size = Edges.sizeOf(isLong);
      Bitwords x = Edges.of(isLong, 0, Edges.all(isLong), Edges.top(isLong), 1);
      int[][] want = {{0, size, 1, 1}, {size, 0, size - 1, size - 1}, {1, size - 1, 0, 2}, {1, size - 1, 2, 0}};
      for (int i = 0; i < 16; i++) {
        String call = Edges.nameOf(isLong) + " " + i / 4 + " and " + i % 4;
        edges.due(call, x.distance(isLong, i / 4, i % 4), want[i / 4][i % 4]);
      }
    }
  }

  private static void distanceOfNoWord() {
    edges.wordsEnd((x, isLong, k) -> x.distance(isLong, k, 0));
  }

  private static void distanceToNoWord() {
    edges.wordsEnd((x, isLong, k) -> x.distance(isLong, 0, k));
  }

  // ---- 14 areSo

  /** Of each pair of an empty word, 1, the one with the ONE at SIZE - 1 alone, and all ONES: 1 if it is so. */
  private static void dueSo(int what, int... want) {
    for (boolean isLong : Edges.KINDS) {
      Bitwords x = Edges.of(isLong, 0, 1, Edges.top(isLong), Edges.all(isLong));
      for (int i = 0; i < want.length; i++) {
        String call = Edges.nameOf(isLong) + " " + i / 4 + " and " + i % 4;
        edges.due(call, x.areSo(isLong, i / 4, i % 4, what), want[i] == 1);
      }
    }
  }

  /** One unlike digit is enough, at whichever PLACE. */
  private static void areTheSame() {
    dueSo(0, 1, 0, 0, 0, 0, 1, 0, 0, 0, 0, 1, 0, 0, 0, 0, 1);
    for (boolean isLong : Edges.KINDS) {
      for (int p = 0; p < Edges.sizeOf(isLong); p++) {
        long w = 0x0123456789abcdefL & Edges.all(isLong);
        Bitwords x = Edges.of(isLong, w, w ^ (1L << p), 1L << p, 1L << (p * 2 % Edges.sizeOf(isLong)));
        edges.due(Edges.nameOf(isLong) + ", unlike at " + p, x.areSo(isLong, 0, 1, 0), false);
        edges.due(Edges.nameOf(isLong) + ", itself", x.areSo(isLong, 1, 1, 0), true);
        edges.due(Edges.nameOf(isLong) + ", shuffled from " + p, x.areSo(isLong, 2, 3, 0), p == 0);
      }
    }
  }

  private static void haveNoneInCommon() {
    dueSo(1, 1, 1, 1, 1, 1, 0, 1, 0, 1, 1, 0, 0, 1, 0, 0, 0);
  }

  private static void isPart() {
    dueSo(2, 1, 1, 1, 1, 0, 1, 0, 1, 0, 0, 1, 1, 0, 0, 0, 1);
  }

  private static void isTurnedRound() {
    dueSo(3, 1, 0, 0, 0, 0, 0, 1, 0, 0, 1, 0, 0, 0, 0, 0, 1);
  }

  /** Of each pair of PLACES: one comes to the other, or never does. */
  private static void isShuffled() {
    dueSo(4, 1, 0, 0, 0, 0, 1, 0, 0, 0, 0, 1, 0, 0, 0, 0, 1);
    for (boolean isLong : Edges.KINDS) {
      int size = Edges.sizeOf(isLong);
      for (int p = 0; p < size; p++) {
        for (int q = 0; q < size; q++) {
          Bitwords x = Edges.of(isLong, 1L << p, 1L << q);
          String call = Edges.nameOf(isLong) + ", " + p + " and " + q;
          edges.due(call, x.areSo(isLong, 0, 1, 4), comesTo(q, p, size));
        }
      }
    }
  }

  private static boolean comesTo(int from, int to, int size) {
    int place = from;
    for (int times = 0; times < size && place != to; times++) {
      place = place < size / 2 ? 2 * place : 2 * (place - size / 2) + 1;
    }
    return place == to;
  }

  /** Nor is it told otherwise the second time. */
  private static void areSoChangesNothing() {
    for (boolean isLong : Edges.KINDS) {
      Bitwords x = Edges.of(isLong, 0, 1, Edges.top(isLong), 2);
      String before = Check.state(x);
      boolean[] first = new boolean[80];
      for (int i = 0; i < 160; i++) {
        boolean isSo = x.areSo(isLong, i / 20 % 4, i / 5 % 4, i % 5);
        first[i % 80] = i < 80 ? isSo : first[i % 80];
        edges.due("what " + i % 5 + " again", isSo, first[i % 80]);
      }
      edges.due("what stands then", Check.state(x), before);
    }
  }

  private static void areSoOfNoWord() {
    edges.wordsEnd((x, isLong, k) -> x.areSo(isLong, k, 0, 4));
    Bitwords x = Edges.busy();
    edges.fails("ahead of what -1", x, Check.INDEX, () -> x.areSo(true, 4, 0, -1));
    edges.fails("ahead of what 5", x, Check.INDEX, () -> x.areSo(false, -1, 0, 5));
  }

  private static void areSoWithNoWord() {
    edges.wordsEnd((x, isLong, k) -> x.areSo(isLong, 0, k, 3));
    Bitwords x = Edges.busy();
    edges.fails("ahead of what -1", x, Check.INDEX, () -> x.areSo(true, 0, 4, -1));
    edges.fails("ahead of what 5", x, Check.INDEX, () -> x.areSo(false, 0, -1, 5));
  }

  private static void areSoWithoutSense() {
    for (boolean isLong : Edges.KINDS) {
      edges.numbersEnd(0, 4, Check.ARGUMENT, (x, what) -> x.areSo(isLong, 0, 1, what));
    }
  }

  // ---- 15 only

  private static void onlyOfEachPair() {
    for (boolean isLong : Edges.KINDS) {
      for (int q = 0; q < Edges.sizeOf(isLong); q++) {
        for (int p = 0; p <= q; p++) {
          Bitwords x = Edges.of(isLong, 1L << p | 1L << q);
          edges.makes("the greatest of " + p + " and " + q, x, isLong, x.only(isLong, 0, true), 1, 1L << q);
          Bitwords y = Edges.of(isLong, 1L << p | 1L << q);
          edges.makes("the least of " + p + " and " + q, y, isLong, y.only(isLong, 0, false), 1, 1L << p);
        }
      }
    }
  }

  private static void onlyTellsNoneOrOne() {
    for (boolean isLong : Edges.KINDS) {
      for (boolean isHighest : new boolean[] {true, false}) {
        Bitwords x = Edges.of(isLong, 0, 1, 6, Edges.all(isLong));
        for (int k = 0; k < 4; k++) {
          int want = k == 0 ? 0 : 1;
          edges.due(Edges.nameOf(isLong) + " " + k, x.only(isLong, k, isHighest), want);
          edges.due("which it has", x.ofWord(isLong, k, 0), want);
        }
      }
    }
  }

  private static void onlyOfEmpty() {
    for (boolean isLong : Edges.KINDS) {
      Bitwords x = new Bitwords();
      edges.makes("the greatest", x, isLong, x.only(isLong, 0, true), 0, 0);
      edges.makes("the least", x, isLong, x.only(isLong, 0, false), 0, 0);
      edges.due("which is not REFUSED", x.house(0), 0);
    }
  }

  private static void onlyEnds() {
    for (boolean isLong : Edges.KINDS) {
      long top = Edges.top(isLong);
      for (long w : new long[] {Edges.all(isLong), top | 1}) {
        Bitwords x = Edges.of(isLong, w);
        edges.makes("the greatest", x, isLong, x.only(isLong, 0, true), 1, top);
        Bitwords y = Edges.of(isLong, w);
        edges.makes("the least", y, isLong, y.only(isLong, 0, false), 1, 1);
      }
      for (long w : new long[] {1, top}) {
        Bitwords x = Edges.of(isLong, w);
        edges.makes("the greatest of one", x, isLong, x.only(isLong, 0, true), 1, w);
        edges.makes("the least of one", x, isLong, x.only(isLong, 0, false), 1, w);
      }
    }
  }

  private static void onlyOfNoWord() {
    edges.wordsEnd((x, isLong, k) -> x.only(isLong, k, true));
    edges.wordsEnd((x, isLong, k) -> x.only(isLong, k, false));
  }

  // ---- 16 nextSet

  /** With n ONES: from the greatest but one, which lacks the ONE at SIZE - n, to the greatest, and no further. */
  private static void nextSetUpToTheLast() {
    for (boolean isLong : Edges.KINDS) {
      int size = Edges.sizeOf(isLong);
      for (int n = 1; n < size; n++) {
        long last = Edges.all(isLong) & (Edges.all(isLong) << (size - n));
        long lastButOne = last - (1L << (size - n - 1));
        Bitwords x = Edges.of(isLong, lastButOne);
        edges.makes(n + " ONES, the last but one", x, isLong, x.nextSet(isLong, 0), size - n, last);
        edges.refuses(n + " ONES, the last", x, () -> x.nextSet(isLong, 0));
      }
    }
  }

  private static void nextSetRefused() {
    for (boolean isLong : Edges.KINDS) {
      Bitwords x = Edges.of(isLong, Edges.all(isLong), Edges.top(isLong));
      edges.refuses("of all", x, () -> x.nextSet(isLong, 0));
      edges.refuses("of the last alone", x, () -> x.nextSet(isLong, 1));
      edges.due("told twice", x.house(0), 2);
    }
  }

  private static void nextSetRefusedOfEmpty() {
    for (boolean isLong : Edges.KINDS) {
      Bitwords x = Edges.of(isLong, 0, 1);
      edges.refuses("of an empty one", x, () -> x.nextSet(isLong, 0));
      edges.makes("of 1, which stands beside it", x, isLong, x.nextSet(isLong, 1), 1, 0);
    }
  }

  private static void nextSetTellsTheLeast() {
    for (boolean isLong : Edges.KINDS) {
      long half = Edges.top(isLong) >>> 1;
      Bitwords x = Edges.of(isLong, half);
      edges.makes("of the last but one", x, isLong, x.nextSet(isLong, 0), Edges.sizeOf(isLong) - 1, half << 1);
      Bitwords y = Edges.of(isLong, Edges.top(isLong) - 1);
      long then = Edges.top(isLong) + half - 1;
      edges.makes("of all but the last", y, isLong, y.nextSet(isLong, 0), 0, then);
      Bitwords z = Edges.of(isLong, 1);
      edges.makes("of 1", z, isLong, z.nextSet(isLong, 0), 1, 2);
    }
  }

  private static void nextSetOfNoWord() {
    edges.wordsEnd((x, isLong, k) -> x.nextSet(isLong, k));
  }
}
