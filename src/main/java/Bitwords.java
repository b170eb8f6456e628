/**
 * Rows of binary digits, four LONGS of 64 and four SHORTS of 32, as sets of places, as numbers, and as
 * polynomials over two elements. The words in capitals are those of the document; it numbers the promises.
 *
 * <p>The digits of each WORD stand in one long. Those of a SHORT stand in the lower half, and the upper half
 * stays 0, so that one long is the NUMBER of either kind (without a sign), and one function serves both kinds.
 */
public final class Bitwords {
  private static final int NONE = -1;
  private static final int REFUSED = -9;
  private static final int WORDS_OF_A_KIND = 4;
  private static final int LONG_SIZE = 64;
  private static final int SHORT_SIZE = 32;
  private static final int WHATS_OF_A_WORD = 10;
  private static final int WHATS_OF_THE_HOUSE = 4;
  private static final long LOWER_HALF = 0xffffffffL;
  private static final long DIGEST_START = 7810;
  private static final long DIGEST_FACTOR = 31;

  /** LONGS 0 to 3, then SHORTS 0 to 3. */
  private final long[] words = new long[2 * WORDS_OF_A_KIND];

  private final Line hand = new Line();

  /** A text that is on its way out, or is only tried: made once, so that calls need no room of their own. */
  private final Line draft = new Line();

  private int refusals;
  private int knocks;

  /** Promise 1. */
  public Bitwords() {}

  // ---- words

  /** Promise 2. */
  public int put(boolean isLong, int k, int high, int low) throws IndexOutOfBoundsException {
    int slot = slotOf(isLong, k);
    return keepForOnes(isLong, slot, Row.joined(high, low));
  }

  /** Promise 3. */
  public int copy(boolean isLong, int k, int from) throws IndexOutOfBoundsException {
    int slot = slotOf(isLong, k);
    return keepForOnes(isLong, slot, words[slotOf(isLong, from)]);
  }

  /** Promise 4. */
  public int widen(int k, int from, boolean isSigned) throws IndexOutOfBoundsException {
    int slot = slotOf(true, k);
    long w = words[slotOf(false, from)];
    return keepForOnes(true, slot, isSigned ? Row.signed(SHORT_SIZE, w) : w);
  }

  /** Promise 5. */
  public int narrow(int k, int from, boolean isHigh) throws IndexOutOfBoundsException {
    int slot = slotOf(false, k);
    long w = words[slotOf(true, from)];
    return keepForOnes(false, slot, isHigh ? w >>> SHORT_SIZE : w);
  }

  /** Promise 6. */
  public int digit(boolean isLong, int k, int place) throws IndexOutOfBoundsException {
    int slot = slotOf(isLong, k);
    checkPlace(place, sizeOf(isLong) - 1);
    return Row.at(words[slot], place);
  }

  /** Promise 7. */
  public int set(boolean isLong, int k, int place, boolean isOne) throws IndexOutOfBoundsException {
    int slot = slotOf(isLong, k);
    checkPlace(place, sizeOf(isLong) - 1);
    long w = words[slot];
    long one = 1L << place;
    words[slot] = isOne ? w | one : w & ~one;
    return Row.at(w, place);
  }

  /** Promise 8. */
  public int ofWord(boolean isLong, int k, int what) throws IndexOutOfBoundsException, IllegalArgumentException {
    int slot = slotOf(isLong, k);
    checkChoice(what, 0, WHATS_OF_A_WORD - 1);
    return Row.toldOf(sizeOf(isLong), words[slot], what);
  }

  // ---- sets

  /** Promise 9. */
  public int mix(boolean isLong, int k, int from, int how)
      throws IndexOutOfBoundsException, IllegalArgumentException {
    int slot = slotOf(isLong, k);
    int other = slotOf(isLong, from);
    checkChoice(how, 0, 3);
    return keepForOnes(isLong, slot, Row.mixed(words[slot], words[other], how));
  }

  /** Promise 10. */
  public int complement(boolean isLong, int k) throws IndexOutOfBoundsException {
    int slot = slotOf(isLong, k);
    return keepForOnes(isLong, slot, ~words[slot]);
  }

  /** Promise 11. */
  public int rank(boolean isLong, int k, int place) throws IndexOutOfBoundsException {
    int slot = slotOf(isLong, k);
    checkPlace(place, sizeOf(isLong));
    return Row.onesBelow(words[slot], place);
  }

  /** Promise 12. */
  public int select(boolean isLong, int k, int n) throws IndexOutOfBoundsException {
    int slot = slotOf(isLong, k);
    return Row.oneAbove(sizeOf(isLong), words[slot], n);
  }

  /** Promise 13. */
  public int distance(boolean isLong, int a, int b) throws IndexOutOfBoundsException {
    int one = slotOf(isLong, a);
    int other = slotOf(isLong, b);
    return Long.bitCount(words[one] ^ words[other]);
  }

  /** Promise 14. */
  public boolean areSo(boolean isLong, int a, int b, int what)
      throws IndexOutOfBoundsException, IllegalArgumentException {
    int one = slotOf(isLong, a);
    int other = slotOf(isLong, b);
    checkChoice(what, 0, 4);
    return Row.stand(sizeOf(isLong), words[one], words[other], what);
  }

  /** Promise 15. */
  public int only(boolean isLong, int k, boolean isHighest) throws IndexOutOfBoundsException {
    int slot = slotOf(isLong, k);
    long w = words[slot];
    return keepForOnes(isLong, slot, isHighest ? Long.highestOneBit(w) : Long.lowestOneBit(w));
  }

  /** Promise 16. */
  public int nextSet(boolean isLong, int k) throws IndexOutOfBoundsException {
    int slot = slotOf(isLong, k);
    long next = Row.nextWithAsMany(sizeOf(isLong), words[slot]);
    // 0 has no ONES, so it is no next one of a WORD that has some: it stands for none.
    if (next == 0) {
      return refuse();
    }
    return keepForLeast(isLong, slot, next);
  }

  // ---- places

  /** Promise 17. */
  public int reverse(boolean isLong, int k) throws IndexOutOfBoundsException {
    int slot = slotOf(isLong, k);
    return keepForLeast(isLong, slot, Row.turnedRound(sizeOf(isLong), words[slot]));
  }

  /** Promise 18. */
  public int reverseBytes(boolean isLong, int k) throws IndexOutOfBoundsException {
    int slot = slotOf(isLong, k);
    return keepForLeast(isLong, slot, Row.bytesTurnedRound(sizeOf(isLong), words[slot]));
  }

  /** Promise 19. */
  public int rotate(boolean isLong, int k, int by) throws IndexOutOfBoundsException {
    int slot = slotOf(isLong, k);
    return keepForLeast(isLong, slot, Row.rotated(sizeOf(isLong), words[slot], by));
  }

  /** Promise 20. */
  public int turnsTo(boolean isLong, int a, int b) throws IndexOutOfBoundsException {
    int one = slotOf(isLong, a);
    int other = slotOf(isLong, b);
    return Row.turnsUntil(sizeOf(isLong), words[one], words[other]);
  }

  /** Promise 21. */
  public int shift(boolean isLong, int k, int by, int how)
      throws IndexOutOfBoundsException, IllegalArgumentException {
    int slot = slotOf(isLong, k);
    int size = sizeOf(isLong);
    checkChoice(by, 0, size - 1);
    checkChoice(how, 0, 2);
    return keepForOnes(isLong, slot, Row.shifted(size, words[slot], by, how));
  }

  /** Promise 22. */
  public int swap(boolean isLong, int k, int width) throws IndexOutOfBoundsException, IllegalArgumentException {
    int slot = slotOf(isLong, k);
    checkChoice(width, 0, Row.widths(sizeOf(isLong)) - 1);
    return keepForLeast(isLong, slot, Row.swapped(words[slot], width));
  }

  /** Promise 23. */
  public int shuffle(boolean isLong, int k, boolean isBack) throws IndexOutOfBoundsException {
    int slot = slotOf(isLong, k);
    int size = sizeOf(isLong);
    long w = words[slot];
    return keepForLeast(isLong, slot, isBack ? Row.shuffledBack(size, w) : Row.shuffled(size, w));
  }

  /** Promise 24. */
  public int weave(int k, int even, int odd) throws IndexOutOfBoundsException {
    int slot = slotOf(true, k);
    long atEven = words[slotOf(false, even)];
    long atOdd = words[slotOf(false, odd)];
    return keepForOnes(true, slot, Row.woven(atEven, atOdd));
  }

  /** Promise 25. */
  public int unweave(int k, int from, boolean isOdd) throws IndexOutOfBoundsException {
    int slot = slotOf(false, k);
    long w = words[slotOf(true, from)];
    return keepForOnes(false, slot, Row.gathered(isOdd ? w >>> 1 : w));
  }

  /** Promise 26. */
  public int gray(boolean isLong, int k, boolean isBack) throws IndexOutOfBoundsException {
    int slot = slotOf(isLong, k);
    long w = words[slot];
    return keepForOnes(isLong, slot, isBack ? Row.ungrayed(w) : Row.grayed(w));
  }

  /** Promise 27. */
  public int step(boolean isLong, int k) throws IndexOutOfBoundsException {
    int slot = slotOf(isLong, k);
    int place = Row.placeOfStep(sizeOf(isLong), words[slot]);
    words[slot] ^= 1L << place;
    return place;
  }

  // ---- numbers

  /** Promise 28. */
  public int plus(boolean isLong, int k, int from, boolean isLess) throws IndexOutOfBoundsException {
    int slot = slotOf(isLong, k);
    long other = words[slotOf(isLong, from)];
    return keepForOnes(isLong, slot, isLess ? words[slot] - other : words[slot] + other);
  }

  /** Promise 29. */
  public int negate(boolean isLong, int k) throws IndexOutOfBoundsException {
    int slot = slotOf(isLong, k);
    return keepForOnes(isLong, slot, -words[slot]);
  }

  /** Promise 30. */
  public int times(boolean isLong, int k, int from, boolean isHigh) throws IndexOutOfBoundsException {
    int slot = slotOf(isLong, k);
    long w = words[slot];
    long other = words[slotOf(isLong, from)];
    return keepForOnes(isLong, slot, isHigh ? Whole.upperProduct(sizeOf(isLong), w, other) : w * other);
  }

  /** Promise 31. */
  public int divide(boolean isLong, int k, int from, boolean isRest) throws IndexOutOfBoundsException {
    int slot = slotOf(isLong, k);
    long w = words[slot];
    long other = words[slotOf(isLong, from)];
    if (other == 0) {
      return refuse();
    }
    return keepForOnes(isLong, slot, isRest ? Whole.rest(w, other) : Whole.quotient(w, other));
  }

  /** Promise 32. */
  public int by(boolean isLong, int k, int by) throws IndexOutOfBoundsException, IllegalArgumentException {
    int slot = slotOf(isLong, k);
    if (!Whole.isSmallDivisor(by)) {
      throw new IllegalArgumentException("by is none of 3, 5, 6, 9 and 10");
    }
    long w = words[slot];
    long quotient = Whole.smallQuotient(w, by);
    words[slot] = quotient;
    return (int) (w - quotient * by);
  }

  /** Promise 33. */
  public int inverse(boolean isLong, int k) throws IndexOutOfBoundsException {
    int slot = slotOf(isLong, k);
    long w = words[slot];
    if (Row.at(w, 0) == 0) {
      return refuse();
    }
    return keepForOnes(isLong, slot, Whole.inverseOf(w));
  }

  /** Promise 34. */
  public int exact(boolean isLong, int k, int from) throws IndexOutOfBoundsException {
    int slot = slotOf(isLong, k);
    long w = words[slot];
    long other = words[slotOf(isLong, from)];
    if (other == 0 || Whole.rest(w, other) != 0) {
      return refuse();
    }
    return keepForOnes(isLong, slot, Whole.quotient(w, other));
  }

  /** Promise 35. */
  public int extreme(boolean isLong, int k, int from, boolean isGreater) throws IndexOutOfBoundsException {
    int slot = slotOf(isLong, k);
    int other = slotOf(isLong, from);
    int order = orderOf(isLong, words[other], words[slot], true);
    if (order != (isGreater ? 1 : -1)) {
      return 0;
    }
    words[slot] = words[other];
    return 1;
  }

  /** Promise 36. */
  public int compare(boolean isLong, int a, int b, boolean isSigned) throws IndexOutOfBoundsException {
    int one = slotOf(isLong, a);
    int other = slotOf(isLong, b);
    return orderOf(isLong, words[one], words[other], isSigned);
  }

  // ---- polynomials

  /** Promise 37. */
  public int polyTimes(boolean isLong, int k, int from) throws IndexOutOfBoundsException {
    int slot = slotOf(isLong, k);
    long other = words[slotOf(isLong, from)];
    return keepForOnes(isLong, slot, Poly.product(words[slot], other));
  }

  /** Promise 38. */
  public int wholeTimes(int k, int a, int b) throws IndexOutOfBoundsException {
    int slot = slotOf(true, k);
    long one = words[slotOf(false, a)];
    long other = words[slotOf(false, b)];
    return keepForDegree(slot, Poly.product(one, other));
  }

  /** Promise 39. */
  public int polyDivide(boolean isLong, int k, int from, boolean isRest) throws IndexOutOfBoundsException {
    int slot = slotOf(isLong, k);
    long w = words[slot];
    long other = words[slotOf(isLong, from)];
    if (other == 0) {
      return refuse();
    }
    return keepForDegree(slot, isRest ? Poly.rest(w, other) : Poly.quotient(w, other));
  }

  /** Promise 40. */
  public int polyGcd(boolean isLong, int k, int from) throws IndexOutOfBoundsException {
    int slot = slotOf(isLong, k);
    long other = words[slotOf(isLong, from)];
    return keepForDegree(slot, Poly.commonDivisor(words[slot], other));
  }

  /** Promise 41. */
  public int polyInverse(boolean isLong, int k) throws IndexOutOfBoundsException {
    int slot = slotOf(isLong, k);
    long w = words[slot];
    if (Row.at(w, 0) == 0) {
      return refuse();
    }
    return keepForDegree(slot, Poly.inverseOf(sizeOf(isLong), w));
  }

  // ---- texts

  /** Promise 42. */
  public int type(int a, int b, int c, int d, int e, int f)
      throws IllegalArgumentException, IllegalStateException {
    checkSigns(a, b, c);
    checkSigns(d, e, f);
    if (signsIn(a, b, c) + signsIn(d, e, f) > hand.room()) {
      throw new IllegalStateException("the text in hand would be longer than 80");
    }
    hand.append(a);
    hand.append(b);
    hand.append(c);
    hand.append(d);
    hand.append(e);
    hand.append(f);
    return hand.length();
  }

  /** Promise 43. */
  public int noText() {
    int length = hand.length();
    hand.empty();
    return length;
  }

  /** Promise 44. */
  public String hand() {
    return hand.asText();
  }

  /** Promise 45. */
  public String text(boolean isLong, int k, int what) throws IndexOutOfBoundsException, IllegalArgumentException {
    int slot = slotOf(isLong, k);
    checkChoice(what, 0, 4);
    switch (what) {
      case 0:
        draft.write(words[slot], 2);
        break;
      case 1:
        draft.write(words[slot], 8);
        break;
      case 2:
        draft.write(words[slot], 16);
        break;
      case 3:
        draft.write(words[slot], 10);
        break;
      default:
        draft.writeSigned(sizeOf(isLong), words[slot], 10);
        break;
    }
    return draft.asText();
  }

  /** Promise 46. */
  public String textIn(boolean isLong, int k, int base)
      throws IndexOutOfBoundsException, IllegalArgumentException {
    int slot = slotOf(isLong, k);
    checkChoice(base, 2, 36);
    draft.writeSigned(sizeOf(isLong), words[slot], base);
    return draft.asText();
  }

  /** Promise 47. */
  public int carry(boolean isLong, int k, int base) throws IndexOutOfBoundsException, IllegalArgumentException {
    int slot = slotOf(isLong, k);
    checkChoice(base, 2, 36);
    hand.writeSigned(sizeOf(isLong), words[slot], base);
    return hand.length();
  }

  /** Promise 48. */
  public int read(boolean isLong, int k, int base) throws IndexOutOfBoundsException, IllegalArgumentException {
    int slot = slotOf(isLong, k);
    checkChoice(base, 2, 36);
    return keepIfRead(isLong, slot, hand.isSignedFrom(sizeOf(isLong), hand.signsAhead(), base));
  }

  /** Promise 49. */
  public int readNumber(boolean isLong, int k) throws IndexOutOfBoundsException {
    int slot = slotOf(isLong, k);
    return keepIfRead(isLong, slot, hand.isNumber(sizeOf(isLong)));
  }

  /** Promise 50. */
  public int decode(boolean isLong, int k) throws IndexOutOfBoundsException {
    int slot = slotOf(isLong, k);
    return keepIfRead(isLong, slot, hand.isCoded(sizeOf(isLong)));
  }

  // ---- the whole

  /** Promise 51. */
  public int house(int what) throws IllegalArgumentException {
    checkChoice(what, 0, WHATS_OF_THE_HOUSE - 1);
    switch (what) {
      case 0:
        return refusals;
      case 1:
        return knocks;
      case 2:
        return hand.length();
      default:
        return allOnes();
    }
  }

  /** Promise 52. */
  public int knock() {
    knocks++;
    return knocks;
  }

  /** Promise 53. */
  public boolean isSound() {
    boolean isSo = true;
    for (int slot = 0; slot < words.length; slot++) {
      int size = sizeOf(slot < WORDS_OF_A_KIND);
      long w = words[slot];
      long next = words[nextOfItsKind(slot)];
      isSo = isSo
          && Sound.asPlaces(size, w)
          && Sound.asRanks(size, w)
          && (next == 0 || Sound.asDivided(w, next))
          && (Row.at(w, 0) == 0 || Sound.asInverted(size, w))
          && Sound.asTexts(size, w, draft);
    }
    return isSo;
  }

  /** Promise 54. */
  public long digest() {
    long d = DIGEST_START;
    for (int what = 0; what < WHATS_OF_THE_HOUSE; what++) {
      d = d * DIGEST_FACTOR + house(what);
    }
    for (int i = 0; i < hand.length(); i++) {
      d = d * DIGEST_FACTOR + hand.signAt(i);
    }
    d = digestOfWords(d, true);
    d = digestOfWords(d, false);
    return d * DIGEST_FACTOR + (isSound() ? 1 : 0);
  }

  // ---- what the methods of the face have in common

  private static int sizeOf(boolean isLong) {
    return isLong ? LONG_SIZE : SHORT_SIZE;
  }

  private static int slotOf(boolean isLong, int k) throws IndexOutOfBoundsException {
    if (k < 0 || k >= WORDS_OF_A_KIND) {
      throw new IndexOutOfBoundsException("there is no such word");
    }
    return isLong ? k : WORDS_OF_A_KIND + k;
  }

  private static int nextOfItsKind(int slot) {
    int next = slot + 1;
    return next % WORDS_OF_A_KIND == 0 ? next - WORDS_OF_A_KIND : next;
  }

  private static void checkPlace(int place, int greatest) throws IndexOutOfBoundsException {
    if (place < 0 || place > greatest) {
      throw new IndexOutOfBoundsException("there is no such place");
    }
  }

  private static void checkChoice(int choice, int least, int greatest) throws IllegalArgumentException {
    if (choice < least || choice > greatest) {
      throw new IllegalArgumentException("a number is not one of those to choose from");
    }
  }

  private static void checkSigns(int a, int b, int c) throws IllegalArgumentException {
    checkChoice(a, NONE, Line.GREATEST_SIGN);
    checkChoice(b, NONE, Line.GREATEST_SIGN);
    checkChoice(c, NONE, Line.GREATEST_SIGN);
  }

  private static int signsIn(int a, int b, int c) {
    return (a == NONE ? 0 : 1) + (b == NONE ? 0 : 1) + (c == NONE ? 0 : 1);
  }

  private static int orderOf(boolean isLong, long a, long b, boolean isSigned) {
    if (a == b) {
      return 0;
    }
    int size = sizeOf(isLong);
    boolean isLess = isSigned ? Row.signed(size, a) < Row.signed(size, b) : Whole.isLess(a, b);
    return isLess ? -1 : 1;
  }

  private int refuse() {
    refusals++;
    return REFUSED;
  }

  private int keepForOnes(boolean isLong, int slot, long w) {
    words[slot] = Row.cut(sizeOf(isLong), w);
    return Long.bitCount(words[slot]);
  }

  private int keepForLeast(boolean isLong, int slot, long w) {
    words[slot] = Row.cut(sizeOf(isLong), w);
    return Row.leastOne(words[slot]);
  }

  private int keepForDegree(int slot, long w) {
    words[slot] = w;
    return Row.greatestOne(w);
  }

  private int keepIfRead(boolean isLong, int slot, boolean isRead) {
    return isRead ? keepForOnes(isLong, slot, hand.valueRead()) : refuse();
  }

  private int allOnes() {
    int ones = 0;
    for (int slot = 0; slot < words.length; slot++) {
      ones += Long.bitCount(words[slot]);
    }
    return ones;
  }

  private long digestOfWords(long start, boolean isLong) {
    long d = start;
    for (int k = 0; k < WORDS_OF_A_KIND; k++) {
      for (int what = 0; what < WHATS_OF_A_WORD; what++) {
        d = d * DIGEST_FACTOR + ofWord(isLong, k, what);
      }
    }
    return d;
  }

  /** What is so of a WORD as a row of PLACES, and as a set of them. */
  private static final class Row {
    /** At b: the PLACES of whose number the digit 2^b is 0. */
    private static final long[] WITHOUT = {
      0x5555555555555555L,
      0x3333333333333333L,
      0x0f0f0f0f0f0f0f0fL,
      0x00ff00ff00ff00ffL,
      0x0000ffff0000ffffL,
      0x00000000ffffffffL
    };

    static long cut(int size, long w) {
      return size == LONG_SIZE ? w : w & LOWER_HALF;
    }

    static long signed(int size, long w) {
      return size == LONG_SIZE ? w : (long) (int) w;
    }

    static long joined(int high, int low) {
      return ((long) high << SHORT_SIZE) | (low & LOWER_HALF);
    }

    static int at(long w, int place) {
      return (int) (w >>> place) & 1;
    }

    /** NONE of an EMPTY one, of which all 64 digits count as leading. */
    static int greatestOne(long w) {
      return LONG_SIZE - 1 - Long.numberOfLeadingZeros(w);
    }

    static int leastOne(long w) {
      return w == 0 ? NONE : Long.numberOfTrailingZeros(w);
    }

    static int toldOf(int size, long w, int what) {
      int low = (int) w;
      int high = (int) (w >>> SHORT_SIZE);
      switch (what) {
        case 0:
          return Long.bitCount(w);
        case 1:
          return size - 1 - greatestOne(w);
        case 2:
          return w == 0 ? size : leastOne(w);
        case 3:
          return greatestOne(w);
        case 4:
          return leastOne(w);
        case 5:
          return w == 0 ? 0 : (signed(size, w) < 0 ? -1 : 1);
        case 6:
          return low;
        case 7:
          return high;
        case 8:
          return low ^ high;
        default:
          return period(size, w);
      }
    }

    /** The least such number divides SIZE, so only the powers of 2 come into question. */
    private static int period(int size, long w) {
      for (int by = 1; by < size; by *= 2) {
        if (rotated(size, w, by) == w) {
          return by;
        }
      }
      return size;
    }

    static long mixed(long w, long other, int how) {
      switch (how) {
        case 0:
          return w & other;
        case 1:
          return w | other;
        case 2:
          return w ^ other;
        default:
          return w & ~other;
      }
    }

    static int onesBelow(long w, int place) {
      return Long.bitCount(lowest(w, place));
    }

    /** The digits below a place; a shift by all 64 would shift by 0, so that is told apart. */
    private static long lowest(long w, int place) {
      return place >= LONG_SIZE ? w : w & ((1L << place) - 1);
    }

    /** The ONE above n others, found by halves. */
    static int oneAbove(int size, long w, int n) {
      if (n < 0 || n >= Long.bitCount(w)) {
        return NONE;
      }
      int place = 0;
      int left = n;
      for (int half = size / 2; half > 0; half /= 2) {
        int ones = onesBelow(w >>> place, half);
        if (left >= ones) {
          left -= ones;
          place += half;
        }
      }
      return place;
    }

    static boolean stand(int size, long a, long b, int what) {
      switch (what) {
        case 0:
          return a == b;
        case 1:
          return (a & b) == 0;
        case 2:
          return (a & ~b) == 0;
        case 3:
          return turnedRound(size, a) == b;
        default:
          return isShuffled(size, a, b);
      }
    }

    /** After as many shuffles as there are WIDTHS each digit is where it was: further ones show nothing new. */
    private static boolean isShuffled(int size, long a, long b) {
      long w = b;
      for (int i = 0; i < widths(size); i++) {
        if (w == a) {
          return true;
        }
        w = shuffled(size, w);
      }
      return false;
    }

    /**
     * The next greater NUMBER with as many ONES, 0 if there is none: the least run of ONES carries into the
     * PLACE above it, and what is left of the run goes to the least PLACES.
     */
    static long nextWithAsMany(int size, long w) {
      long least = Long.lowestOneBit(w);
      long carried = cut(size, w + least);
      if (carried == 0) {
        return 0;
      }
      // Two shifts: one by the sum of both could be one by 64, which would shift by 0.
      long run = (carried ^ w) >>> 2 >>> Long.numberOfTrailingZeros(w);
      return carried | run;
    }

    static long turnedRound(int size, long w) {
      return Long.reverse(w) >>> (LONG_SIZE - size);
    }

    static long bytesTurnedRound(int size, long w) {
      return Long.reverseBytes(w) >>> (LONG_SIZE - size);
    }

    static long rotated(int size, long w, int by) {
      int up = by & (size - 1);
      // The shift down would be one by 64 then, which Java takes as one by 0.
      if (up == 0) {
        return w;
      }
      return cut(size, w << up) | (w >>> (size - up));
    }

    static int turnsUntil(int size, long a, long b) {
      for (int by = 0; by < size; by++) {
        if (rotated(size, a, by) == b) {
          return by;
        }
      }
      return NONE;
    }

    static long shifted(int size, long w, int by, int how) {
      switch (how) {
        case 0:
          return w << by;
        case 1:
          return w >>> by;
        default:
          return signed(size, w) >> by;
      }
    }

    /** How many WIDTHS there are: 6 of a LONG, 5 of a SHORT. */
    static int widths(int size) {
      return size == LONG_SIZE ? 6 : 5;
    }

    static long swapped(long w, int width) {
      if (width < 0 || width >= WITHOUT.length) {
        return w;
      }
      int by = 1 << width;
      long without = WITHOUT[width];
      return ((w & without) << by) | ((w >>> by) & without);
    }

    static long shuffled(int size, long w) {
      int half = size / 2;
      return woven(lowest(w, half), w >>> half);
    }

    static long shuffledBack(int size, long w) {
      return gathered(w) | (gathered(w >>> 1) << (size / 2));
    }

    static long woven(long even, long odd) {
      return spread(even) | (spread(odd) << 1);
    }

    /** What is at p, below 32, comes to 2 * p: halves move apart, then their halves, and so on. */
    private static long spread(long w) {
      long apart = w;
      for (int width = WITHOUT.length - 2; width >= 0; width--) {
        apart = (apart | (apart << (1 << width))) & WITHOUT[width];
      }
      return apart;
    }

    /** What is at 2 * p comes to p, and what is at the odd PLACES is gone. */
    static long gathered(long w) {
      long together = w & WITHOUT[0];
      for (int width = 0; width + 1 < WITHOUT.length; width++) {
        together = (together | (together >>> (1 << width))) & WITHOUT[width + 1];
      }
      return together;
    }

    static long grayed(long w) {
      return w ^ (w >>> 1);
    }

    /** At p the xor of all digits from p on: of 2 of them, of 4, and so on. */
    static long ungrayed(long w) {
      long undone = w;
      for (int by = 1; by < LONG_SIZE; by *= 2) {
        undone ^= undone >>> by;
      }
      return undone;
    }

    /**
     * The GRAY of an even number has an even number of ONES, and the digit at 0 changes; otherwise the one
     * above the least ONE does, and at the end of all there is none above: the last ONE goes.
     */
    static int placeOfStep(int size, long w) {
      if (Long.bitCount(w) % 2 == 0) {
        return 0;
      }
      return Math.min(leastOne(w) + 1, size - 1);
    }
  }

  /** What is done with NUMBERS: longs that count without a sign. */
  private static final class Whole {
    private static final long GREATEST_DIGIT = 0x8000000000000000L;

    /** 2^65 by 3, rounded up: over by a third, too little to show in a product with less than 2^64. */
    private static final long THIRD = 0xaaaaaaaaaaaaaaabL;

    /** 2^66 by 5, rounded up: over by a fifth, likewise. */
    private static final long FIFTH = 0xcccccccccccccccdL;

    /** 2^67 by 9, rounded up: over by seven ninths, likewise. */
    private static final long NINTH = 0xe38e38e38e38e38fL;

    static boolean isLess(long a, long b) {
      return (a ^ GREATEST_DIGIT) < (b ^ GREATEST_DIGIT);
    }

    /** The divisor is not 0: callers look. */
    static long quotient(long w, long divisor) {
      if (divisor < 0) {
        return isLess(w, divisor) ? 0 : 1;
      }
      // Half of w has no sign; twice its quotient is the quotient of w, or 1 less.
      long nearly = divisor == 0 ? 0 : ((w >>> 1) / divisor) << 1;
      return isLess(w - nearly * divisor, divisor) ? nearly : nearly + 1;
    }

    static long rest(long w, long divisor) {
      return w - quotient(w, divisor) * divisor;
    }

    static long upperProduct(int size, long a, long b) {
      return size == LONG_SIZE ? upperOfLong(a, b) : (a * b) >>> SHORT_SIZE;
    }

    /** By halves, as on paper: no sum here comes to 2^64. */
    private static long upperOfLong(long a, long b) {
      long aLow = a & LOWER_HALF;
      long aHigh = a >>> SHORT_SIZE;
      long bLow = b & LOWER_HALF;
      long bHigh = b >>> SHORT_SIZE;
      long one = aHigh * bLow + ((aLow * bLow) >>> SHORT_SIZE);
      long other = aLow * bHigh + (one & LOWER_HALF);
      return aHigh * bHigh + (one >>> SHORT_SIZE) + (other >>> SHORT_SIZE);
    }

    static boolean isSmallDivisor(int by) {
      return by == 3 || by == 5 || by == 6 || by == 9 || by == 10;
    }

    /** By 3, 5, 6, 9 or 10: the product with its inverse, 2^64 and some more times as much, cut off there. */
    static long smallQuotient(long w, int by) {
      switch (by) {
        case 3:
          return upperOfLong(w, THIRD) >>> 1;
        case 5:
          return upperOfLong(w, FIFTH) >>> 2;
        case 6:
          return upperOfLong(w, THIRD) >>> 2;
        case 9:
          return upperOfLong(w, NINTH) >>> 3;
        default:
          return upperOfLong(w, FIFTH) >>> 3;
      }
    }

    /** Of an odd number: it is its own inverse to 3 digits, and each round makes twice as many right. */
    static long inverseOf(long w) {
      long inverse = w;
      for (int right = 3; right < LONG_SIZE; right *= 2) {
        inverse *= 2 - w * inverse;
      }
      return inverse;
    }
  }

  /** What is done with POLYNOMIALS. */
  private static final class Poly {
    static long product(long a, long b) {
      long product = 0;
      for (int power = 0; power < LONG_SIZE; power++) {
        if (Row.at(b, power) == 1) {
          product ^= a << power;
        }
      }
      return product;
    }

    /** The divisor is not EMPTY: callers look. */
    static long quotient(long w, long divisor) {
      int degree = Row.greatestOne(divisor);
      long left = w;
      long quotient = 0;
      for (int power = Row.greatestOne(w) - degree; power >= 0; power--) {
        if (Row.at(left, power + degree) == 1) {
          left ^= divisor << power;
          quotient |= 1L << power;
        }
      }
      return quotient;
    }

    /** The divisor is not EMPTY, likewise. */
    static long rest(long w, long divisor) {
      int degree = Row.greatestOne(divisor);
      long left = w;
      for (int power = Row.greatestOne(w) - degree; power >= 0; power--) {
        if (Row.at(left, power + degree) == 1) {
          left ^= divisor << power;
        }
      }
      return left;
    }

    /** The rest has a lesser DEGREE each time, so there are at most 64 rounds. */
    static long commonDivisor(long a, long b) {
      long divisor = a;
      long left = b;
      for (int round = 0; round <= LONG_SIZE && left != 0; round++) {
        long rest = rest(divisor, left);
        divisor = left;
        left = rest;
      }
      return divisor;
    }

    /** Of one whose digit at 0 is 1: power by power, what the product has too much is taken away. */
    static long inverseOf(int size, long w) {
      long inverse = 0;
      long missing = 1;
      for (int power = 0; power < size; power++) {
        if (Row.at(missing, power) == 1) {
          missing ^= w << power;
          inverse |= 1L << power;
        }
      }
      return inverse;
    }
  }

  /** A text of at most 80 signs, each by its number (0 to 38), so that a digit is what it stands for. */
  private static final class Line {
    static final int GREATEST_SIGN = 38;
    private static final int GREATEST_LENGTH = 80;
    private static final int LETTER_X = 33;
    private static final int MINUS = 36;
    private static final int PLUS = 37;
    private static final int HASH = 38;
    private static final String SIGNS = "0123456789abcdefghijklmnopqrstuvwxyz-+#";

    private final byte[] numbers = new byte[GREATEST_LENGTH];
    private int length;
    private long valueRead;

    int length() {
      return length;
    }

    int room() {
      return GREATEST_LENGTH - length;
    }

    void empty() {
      length = 0;
    }

    /** NONE is no sign: it leaves the text as it is. */
    void append(int number) {
      if (number >= 0 && number <= GREATEST_SIGN && length < GREATEST_LENGTH) {
        numbers[length] = (byte) number;
        length++;
      }
    }

    private int numberAt(int i) {
      return i >= 0 && i < length ? numbers[i] : NONE;
    }

    char signAt(int i) {
      int number = numberAt(i);
      return number == NONE ? '?' : SIGNS.charAt(number);
    }

    String asText() {
      char[] signs = new char[length];
      for (int i = 0; i < length; i++) {
        signs[i] = signAt(i);
      }
      return new String(signs);
    }

    /** A NUMBER by a base, the least digit first, then turned round. */
    void write(long number, int base) {
      empty();
      appendDigits(number, base);
      turnRound();
    }

    void writeSigned(int size, long w, int base) {
      long number = Row.signed(size, w);
      empty();
      // The least number of 64 is its own negative, and counts as 2^63 without its sign.
      appendDigits(number < 0 ? -number : number, base);
      if (number < 0) {
        append(MINUS);
      }
      turnRound();
    }

    private void appendDigits(long number, int base) {
      long left = number;
      for (int i = 0; i < LONG_SIZE && (i == 0 || left != 0); i++) {
        long quotient = Whole.quotient(left, base);
        append((int) (left - quotient * base));
        left = quotient;
      }
    }

    private void turnRound() {
      for (int i = 0; i < length / 2; i++) {
        byte number = numbers[i];
        numbers[i] = numbers[length - 1 - i];
        numbers[length - 1 - i] = number;
      }
    }

    /** What the text told when it was last READ with success. */
    long valueRead() {
      return valueRead;
    }

    boolean isNumber(int size) {
      return numberAt(0) != MINUS && isBounded(signsAhead(), 10, Row.cut(size, -1));
    }

    boolean isCoded(int size) {
      int start = signsAhead();
      if (numberAt(start) == HASH) {
        return isSignedFrom(size, start + 1, 16);
      }
      if (numberAt(start) != 0 || start + 1 == length) {
        return isSignedFrom(size, start, 10);
      }
      if (numberAt(start + 1) == LETTER_X) {
        return isSignedFrom(size, start + 2, 16);
      }
      return isSignedFrom(size, start + 1, 8);
    }

    /** How many signs stand ahead of the digits: "-" or "+", or none. */
    int signsAhead() {
      return numberAt(0) == MINUS || numberAt(0) == PLUS ? 1 : 0;
    }

    boolean isSignedFrom(int size, int start, int base) {
      boolean isBelow = numberAt(0) == MINUS;
      long half = 1L << (size - 1);
      boolean isRead = isBounded(start, base, isBelow ? half : half - 1);
      if (isRead && isBelow) {
        valueRead = -valueRead;
      }
      return isRead;
    }

    /** Whether there are digits by the base alone from start on, one or more, that tell at most the limit. */
    private boolean isBounded(int start, int base, long limit) {
      long sum = 0;
      for (int i = start; i < length; i++) {
        int digit = numberAt(i);
        // The sum is looked at before it grows: it could come to 2^64 and more.
        if (digit >= base || Whole.isLess(Whole.quotient(limit - digit, base), sum)) {
          return false;
        }
        sum = sum * base + digit;
      }
      if (start >= length) {
        return false;
      }
      valueRead = sum;
      return true;
    }
  }

  /** The parts of promise 53: w is a WORD, next the one behind it. */
  private static final class Sound {
    private static final int TURN = 13;

    static boolean asPlaces(int size, long w) {
      long swapped = w;
      for (int width = 0; width < Row.widths(size); width++) {
        swapped = Row.swapped(swapped, width);
      }
      long shuffled = w;
      for (int i = 0; i < Row.widths(size); i++) {
        shuffled = Row.shuffled(size, shuffled);
      }
      return Row.turnedRound(size, Row.turnedRound(size, w)) == w
          && Row.rotated(size, Row.rotated(size, w, TURN), -TURN) == w
          && Row.turnedRound(size, swapped) == w
          && shuffled == w
          && Row.ungrayed(Row.grayed(w)) == w;
    }

    static boolean asRanks(int size, long w) {
      for (int place = 0; place < size; place++) {
        if (Row.at(w, place) == 1 && Row.oneAbove(size, w, Row.onesBelow(w, place)) != place) {
          return false;
        }
      }
      return Long.bitCount(w) + Long.bitCount(Row.cut(size, ~w)) == size;
    }

    /** The next one is not EMPTY. */
    static boolean asDivided(long w, long next) {
      long rest = Whole.rest(w, next);
      long polyRest = Poly.rest(w, next);
      long common = Poly.commonDivisor(w, next);
      return Whole.quotient(w, next) * next + rest == w
          && Whole.isLess(rest, next)
          && (Poly.product(Poly.quotient(w, next), next) ^ polyRest) == w
          && Row.greatestOne(polyRest) < Row.greatestOne(next)
          && common != 0
          && Poly.rest(w, common) == 0
          && Poly.rest(next, common) == 0;
    }

    /** Its digit at 0 is 1. */
    static boolean asInverted(int size, long w) {
      long inverse = Row.cut(size, Whole.inverseOf(w));
      return Row.cut(size, w * inverse) == 1 && Row.cut(size, Poly.product(w, Poly.inverseOf(size, w))) == 1;
    }

    static boolean asTexts(int size, long w, Line line) {
      line.writeSigned(size, w, 7);
      if (!line.isSignedFrom(size, line.signsAhead(), 7) || Row.cut(size, line.valueRead()) != w) {
        return false;
      }
      line.write(w, 10);
      return line.isNumber(size) && line.valueRead() == w;
    }
  }
}
