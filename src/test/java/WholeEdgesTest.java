import java.math.BigInteger;

/** Promises 51 to 54, sentence by sentence, with the boundaries of each. */
final class WholeEdgesTest {
  private static final Edges edges = new Edges();

  public static void main(String[] args) {
    edges.says(51, "0 how often REFUSED was told", WholeEdgesTest::houseOfRefused);
    edges.says(51, "0 how often REFUSED was told", WholeEdgesTest::houseOfNotRefused);
    edges.says(51, "1 how often it was knocked", WholeEdgesTest::houseOfKnocks);
    edges.says(51, "2 how long the TEXT in HAND is", WholeEdgesTest::houseOfText);
    edges.says(51, "3 how many ONES all WORDS have", WholeEdgesTest::houseOfOnes);
    edges.says(51, "Returns that.", WholeEdgesTest::houseChangesNothing);
    edges.says(51, "Throws `IllegalArgumentException` if what is not 0 to 3", WholeEdgesTest::houseWithoutSense);
    edges.says(52, "Returns how often ever, with this.", WholeEdgesTest::knockOften);
    edges.says(52, "Knocks.", WholeEdgesTest::knockChangesNothingElse);
    edges.says(53, "of each WORD w, and v, the next one of its kind (0 behind 3)", WholeEdgesTest::soundOfEachPair);
    edges.says(53, "w turned round twice", WholeEdgesTest::turnedRoundTwice);
    edges.says(53, "rotated by 13 and back", WholeEdgesTest::rotatedAndBack);
    edges.says(53, "through all SWAPS and turned round", WholeEdgesTest::swappedAndTurnedRound);
    edges.says(53, "six (five) times SHUFFLED", WholeEdgesTest::shuffledRound);
    edges.says(53, "and its GRAY undone, is w", WholeEdgesTest::grayUndone);
    edges.says(53, "it has, with its complement, SIZE ONES", WholeEdgesTest::soundOfEmptyAndAll);
    edges.says(53, "SELECT of each RANK of a ONE is that ONE", WholeEdgesTest::selectOfEachRank);
    edges.says(53, "if v is not EMPTY", WholeEdgesTest::soundWithEmptyNext);
    edges.says(53, "quotient and rest by it make w again, of numbers and of POLYNOMIALS", WholeEdgesTest::madeAgain);
    edges.says(53, "and the rest is less (of POLYNOMIALS of a lesser DEGREE)", WholeEdgesTest::restIsLess);
    edges.says(53, "and their greatest common divisor leaves no rest of both", WholeEdgesTest::divisorOfBoth);
    edges.says(53, "if its digit at 0 is 1", WholeEdgesTest::soundWithAndWithoutTheFirst);
    edges.says(53, "both its inverses are such", WholeEdgesTest::bothInverses);
    edges.says(53, "its SIGNED number by the BASE 7, and its NUMBER by 10, READ again, is w",
        WholeEdgesTest::readAgain);
    edges.says(53, "Returns whether all of this is so", WholeEdgesTest::soundChangesNothing);
    edges.says(54, "Computes a checksum. A number d starts with 7810", WholeEdgesTest::digestOfANewObject);
    edges.says(54, "then d becomes d * 31 + v, which wraps around as a 64-bit integer",
        WholeEdgesTest::digestWrapsAround);
    edges.says(54, "for each v in this order: house() of 0 to 3", WholeEdgesTest::digestOfTheHouse);
    edges.says(54, "the code of each sign of the TEXT in HAND", WholeEdgesTest::digestOfTheText);
    edges.says(54, "for LONGS, then for SHORTS, WORD by WORD: ofWord() of 0 to 9", WholeEdgesTest::digestOfWords);
    edges.says(54, "1 if isSound(), otherwise 0", WholeEdgesTest::digestEndsWithSound);
    edges.says(54, "Returns d.", WholeEdgesTest::digestChangesNothing);
    edges.end(51, 54);
  }

  // ---- 51 house, 52 knock

  /** Each method that tells REFUSED, of both kinds: each time it is one more. */
  private static void houseOfRefused() {
    for (boolean isLong : Edges.KINDS) {
      Bitwords x = Edges.of(isLong, 6, 0);
      Check.Call[] refused = {
        () -> x.nextSet(isLong, 1), () -> x.divide(isLong, 0, 1, false), () -> x.divide(isLong, 0, 1, true),
        () -> x.inverse(isLong, 0), () -> x.exact(isLong, 0, 1), () -> x.exact(isLong, 1, 1),
        () -> x.polyDivide(isLong, 0, 1, false), () -> x.polyDivide(isLong, 0, 1, true),
        () -> x.polyInverse(isLong, 0), () -> x.read(isLong, 0, 10), () -> x.readNumber(isLong, 0),
        () -> x.decode(isLong, 0)
      };
      edges.due("at first", x.house(0), 0);
      for (int i = 0; i < refused.length; i++) {
        edges.due("answer " + i, refused[i].answer(), Edges.REFUSED);
        edges.due("with answer " + i, x.house(0), i + 1);
      }
    }
  }

  private static void houseOfNotRefused() {
    for (boolean isLong : Edges.KINDS) {
      Bitwords x = Edges.of(isLong, 6, 0, 3);
      Check.type(x, "+1");
      edges.due("NONE", x.select(isLong, 1, 0), Edges.NONE);
      edges.due("NONE", x.turnsTo(isLong, 0, 1), Edges.NONE);
      edges.due("NONE", x.polyGcd(isLong, 1, 1), Edges.NONE);
      edges.due("0 times", x.exact(isLong, 1, 0), 0);
      edges.due("done", x.nextSet(isLong, 0), 0);
      edges.due("done", x.inverse(isLong, 0), Edges.onesOf(isLong ? 0x8e38e38e38e38e39L : 0x38e38e39L));
      edges.due("done", x.polyInverse(isLong, 2), Edges.sizeOf(isLong) - 1);
      edges.due("done", x.read(isLong, 3, 2) + x.readNumber(isLong, 3) + x.decode(isLong, 3), 3);
      edges.fails("an exception", x, Check.INDEX, () -> x.nextSet(isLong, 4));
      edges.fails("an exception", x, Check.INDEX, () -> x.divide(isLong, 0, -1, true));
      edges.fails("an exception", x, Check.ARGUMENT, () -> x.read(isLong, 0, 37));
      edges.due("which all is not REFUSED", x.house(0), 0);
    }
  }

  private static void houseOfKnocks() {
    Bitwords x = new Bitwords();
    edges.due("at first", x.house(1), 0);
    x.knock();
    edges.due("once", x.house(1), 1);
    x.inverse(true, 0);
    x.noText();
    edges.due("nothing else counts", x.house(1), 1);
    x.knock();
    edges.due("twice", x.house(1), 2);
    edges.due("another object", new Bitwords().house(1), 0);
  }

  private static void houseOfText() {
    for (int length : new int[] {0, 1, 79, 80}) {
      Bitwords x = Check.type(new Bitwords(), "-".repeat(length));
      edges.due("of " + length, x.house(2), length);
      x.put(true, 0, Edges.MIN, 0);
      x.carry(true, 0, 2);
      edges.due("the longest that is carried", x.house(2), 65);
      x.noText();
      edges.due("of none", x.house(2), 0);
    }
  }

  private static void houseOfOnes() {
    Bitwords x = new Bitwords();
    edges.due("at first", x.house(3), 0);
    int ones = 0;
    for (boolean isLong : Edges.KINDS) {
      for (int k = 0; k < 4; k++) {
        x.complement(isLong, k);
        ones += Edges.sizeOf(isLong);
        edges.due("all of " + Edges.nameOf(isLong) + " " + k + " too", x.house(3), ones);
      }
    }
    edges.due("all of all", x.house(3), 384);
    x.set(false, 3, 31, false);
    edges.due("but one", x.house(3), 383);
    x.set(true, 3, 63, false);
    edges.due("but two", x.house(3), 382);
  }

  private static void houseWithoutSense() {
    edges.numbersEnd(0, 3, Check.ARGUMENT, (x, what) -> x.house(what));
  }

  private static void houseChangesNothing() {
    Bitwords x = Edges.busy();
    String before = Check.state(x);
    for (int i = 0; i < 8; i++) {
      edges.due("what " + i % 4 + " twice", x.house(i % 4), Edges.busy().house(i % 4));
    }
    edges.due("what stands then", Check.state(x), before);
  }

  /** As often as an object is used. */
  private static void knockOften() {
    Bitwords x = new Bitwords();
    for (int often = 1; often <= 512; often++) {
      edges.due("call " + often, x.knock(), often);
    }
  }

  private static void knockChangesNothingElse() {
    Bitwords x = Edges.busy();
    String before = Check.state(x).replace("knocked 1", "knocked 2");
    edges.due("the second time", x.knock(), 2);
    edges.due("what stands then", Check.state(x), before);
  }

  // ---- 53 isSound

  private static void dueSound(boolean isLong, long... words) {
    Bitwords x = Edges.of(isLong, words);
    edges.due(Edges.nameOf(isLong) + " " + java.util.Arrays.toString(words), x.isSound(), true);
  }

  private static void soundOfEachPair() {
    for (boolean isLong : Edges.KINDS) {
      long all = Edges.all(isLong);
      long top = Edges.top(isLong);
      long[] ends = {0, 1, 2, 3, top - 1, top, top + 1, all - 1, all};
      for (long w : ends) {
        for (long v : ends) {
          dueSound(isLong, w, v);
          dueSound(isLong, v, 0, 0, w);
        }
      }
    }
  }

  /** What promise 53 says of w and v, done by the face. */
  private interface OfPair {
    void on(Bitwords x, boolean isLong, String call);
  }

  /** Word 0 is w and word 1 is v, which is not EMPTY; word 2 is w once more. */
  private static void ofPairs(OfPair part) {
    for (boolean isLong : Edges.KINDS) {
      long all = Edges.all(isLong);
      long top = Edges.top(isLong);
      long[] words = {
        0, 1, 2, 3, 0x8765432112345678L & all, 0x5555555555555555L & all, top - 1, top, top + 1, all - 1, all
      };
      for (long w : words) {
        for (long v : words) {
          Bitwords x = Edges.of(isLong, w, v == 0 ? 7 : v, w);
          String call = Edges.nameOf(isLong) + " " + Long.toHexString(w) + " and " + Long.toHexString(v);
          edges.due(call + ", isSound()", x.isSound(), true);
          part.on(x, isLong, call);
        }
      }
    }
  }

  private static void dueAgain(Bitwords x, boolean isLong, String call) {
    edges.due(call + ", it is w again", x.areSo(isLong, 0, 2, 0), true);
  }

  private static void turnedRoundTwice() {
    ofPairs((x, isLong, call) -> {
      x.reverse(isLong, 0);
      edges.due(call + ", the other way round", x.areSo(isLong, 2, 0, 3), true);
      x.reverse(isLong, 0);
      dueAgain(x, isLong, call);
    });
  }

  private static void rotatedAndBack() {
    ofPairs((x, isLong, call) -> {
      x.rotate(isLong, 0, 13);
      edges.due(call + ", it is turned to", x.turnsTo(isLong, 2, 0) == 13 % x.ofWord(isLong, 2, 9), true);
      x.rotate(isLong, 0, -13);
      dueAgain(x, isLong, call);
    });
  }

  private static void swappedAndTurnedRound() {
    ofPairs((x, isLong, call) -> {
      for (int width = 0; width < (isLong ? 6 : 5); width++) {
        x.swap(isLong, 0, width);
      }
      edges.due(call + ", the other way round", x.areSo(isLong, 2, 0, 3), true);
      x.reverse(isLong, 0);
      dueAgain(x, isLong, call);
    });
  }

  private static void shuffledRound() {
    ofPairs((x, isLong, call) -> {
      for (int times = 0; times < (isLong ? 6 : 5); times++) {
        x.shuffle(isLong, 0, false);
        edges.due(call + ", it is one of those", x.areSo(isLong, 0, 2, 4), true);
      }
      dueAgain(x, isLong, call);
    });
  }

  private static void grayUndone() {
    ofPairs((x, isLong, call) -> {
      x.gray(isLong, 0, false);
      x.gray(isLong, 0, true);
      dueAgain(x, isLong, call);
    });
  }

  private static void selectOfEachRank() {
    ofPairs((x, isLong, call) -> {
      for (int p = 0; p < Edges.sizeOf(isLong); p++) {
        if (x.digit(isLong, 0, p) == 1) {
          edges.due(call + ", at " + p, x.select(isLong, 0, x.rank(isLong, 0, p)), p);
        }
      }
    });
  }

  private static void madeAgain() {
    ofPairs((x, isLong, call) -> {
      x.copy(isLong, 3, 0);
      x.divide(isLong, 0, 1, false);
      x.divide(isLong, 3, 1, true);
      x.times(isLong, 0, 1, false);
      x.plus(isLong, 0, 3, false);
      dueAgain(x, isLong, call);
      x.copy(isLong, 3, 0);
      x.polyDivide(isLong, 0, 1, false);
      x.polyDivide(isLong, 3, 1, true);
      x.polyTimes(isLong, 0, 1);
      x.mix(isLong, 0, 3, 2);
      dueAgain(x, isLong, call);
    });
  }

  private static void restIsLess() {
    ofPairs((x, isLong, call) -> {
      x.divide(isLong, 0, 1, true);
      edges.due(call + ", the rest", x.compare(isLong, 0, 1, false), -1);
      int degree = x.polyDivide(isLong, 2, 1, true);
      edges.due(call + ", its DEGREE " + degree + " is less", degree < x.ofWord(isLong, 1, 3), true);
    });
  }

  private static void divisorOfBoth() {
    ofPairs((x, isLong, call) -> {
      x.polyGcd(isLong, 0, 1);
      edges.due(call + ", rest of w", x.polyDivide(isLong, 2, 0, true), Edges.NONE);
      edges.due(call + ", rest of v", x.polyDivide(isLong, 1, 0, true), Edges.NONE);
    });
  }

  private static void bothInverses() {
    ofPairs((x, isLong, call) -> {
      if (x.digit(isLong, 0, 0) == 1) {
        x.copy(isLong, 3, 0);
        x.inverse(isLong, 0);
        edges.due(call + ", ONES of the product", x.times(isLong, 0, 2, false), 1);
        edges.due(call + ", the product", x.ofWord(isLong, 0, 6), 1);
        x.polyInverse(isLong, 3);
        edges.due(call + ", ONES of the polyTimes() product", x.polyTimes(isLong, 3, 2), 1);
        edges.due(call + ", the polyTimes() product", x.ofWord(isLong, 3, 6), 1);
      }
    });
  }

  private static void readAgain() {
    ofPairs((x, isLong, call) -> {
      x.carry(isLong, 0, 7);
      x.put(isLong, 0, 6, 6);
      x.read(isLong, 0, 7);
      dueAgain(x, isLong, call);
      Check.type(x, x.text(isLong, 0, 3));
      x.put(isLong, 0, 6, 6);
      x.readNumber(isLong, 0);
      dueAgain(x, isLong, call);
    });
  }

  private static void soundOfEmptyAndAll() {
    edges.due("of a new object", new Bitwords().isSound(), true);
    for (boolean isLong : Edges.KINDS) {
      long all = Edges.all(isLong);
      dueSound(isLong, all, all, all, all);
      dueSound(isLong, all, 0, all, 0);
      dueSound(isLong, 0, all, 0, all);
    }
  }

  private static void soundWithEmptyNext() {
    for (boolean isLong : Edges.KINDS) {
      for (int empty = 0; empty < 4; empty++) {
        long[] words = {Edges.all(isLong), Edges.top(isLong), 6, 1};
        words[empty] = 0;
        dueSound(isLong, words);
      }
    }
  }

  private static void soundWithAndWithoutTheFirst() {
    for (boolean isLong : Edges.KINDS) {
      long top = Edges.top(isLong);
      long all = Edges.all(isLong);
      dueSound(isLong, top, top | 1, all - 1, all);
      dueSound(isLong, 2, 3, 0, 1);
    }
  }

  private static void soundChangesNothing() {
    for (int length : new int[] {0, 3, 80}) {
      Bitwords x = Edges.busy();
      Check.type(x, "#".repeat(length));
      String before = Check.state(x);
      edges.due("with " + length + " signs in HAND", x.isSound(), true);
      edges.due("what stands then", Check.state(x), before);
    }
  }

  // ---- 54 digest

  private static BigInteger more(BigInteger d, long v) {
    return d.multiply(BigInteger.valueOf(31)).add(BigInteger.valueOf(v));
  }

  /** As the document tells it, without a bound; the digest is the SIGNED number of its last 64 digits. */
  private static BigInteger unbounded(Bitwords x) {
    BigInteger d = BigInteger.valueOf(7810);
    for (int what = 0; what < 4; what++) {
      d = more(d, x.house(what));
    }
    for (char sign : x.hand().toCharArray()) {
      d = more(d, sign);
    }
    for (boolean isLong : Edges.KINDS) {
      for (int word = 0; word < 40; word++) {
        d = more(d, x.ofWord(isLong, word / 10, word % 10));
      }
    }
    return more(d, x.isSound() ? 1 : 0);
  }

  private static void digestOfANewObject() {
    BigInteger d = BigInteger.valueOf(7810).multiply(BigInteger.valueOf(31).pow(4));
    for (int word = 0; word < 8; word++) {
      int size = word < 4 ? 64 : 32;
      for (int v : new int[] {0, size, size, -1, -1, 0, 0, 0, 0, 1}) {
        d = more(d, v);
      }
    }
    edges.due("what it tells", new Bitwords().digest(), more(d, 1).longValue());
  }

  private static void digestWrapsAround() {
    for (boolean isLong : Edges.KINDS) {
      long top = Edges.top(isLong);
      Bitwords x = Edges.of(isLong, top, top - 1, Edges.all(isLong), 1);
      BigInteger d = unbounded(x);
      edges.due("as far as it needs no wrapping", d.bitLength() > 64, true);
      edges.due("what it tells", x.digest(), d.longValue());
    }
    edges.due("of a busy one", Edges.busy().digest(), unbounded(Edges.busy()).longValue());
  }

  private static void digestOfTheHouse() {
    Bitwords x = new Bitwords();
    x.inverse(true, 0);
    edges.due("REFUSED once", x.digest(), unbounded(x).longValue());
    x.knock();
    x.knock();
    edges.due("knocked twice", x.digest(), unbounded(x).longValue());
    Bitwords y = new Bitwords();
    edges.due("each is in it", y.digest() == x.digest(), false);
    y.inverse(true, 0);
    edges.due("each is in it", y.digest() == x.digest(), false);
    y.knock();
    y.knock();
    edges.due("and nothing else", y.digest(), x.digest());
  }

  private static void digestOfTheText() {
    for (String text : new String[] {"", "0", "9", "a", "z", "-", "+", "#", "z".repeat(79), "#".repeat(80), "01", "10"}) {
      Bitwords x = Check.type(new Bitwords(), text);
      edges.due("of " + text, x.digest(), unbounded(x).longValue());
    }
  }

  private static void digestOfWords() {
    for (boolean isLong : Edges.KINDS) {
      for (int k = 0; k < 4; k++) {
        for (int place : new int[] {0, Edges.sizeOf(isLong) - 1}) {
          Bitwords x = new Bitwords();
          x.set(isLong, k, place, true);
          String call = Edges.nameOf(isLong) + " " + k + " at " + place;
          edges.due(call, x.digest(), unbounded(x).longValue());
          edges.due(call + " is in it", x.digest() == new Bitwords().digest(), false);
        }
      }
    }
  }

  /** All ahead of the last v, as it is told by the face. */
  private static void digestEndsWithSound() {
    for (boolean isLong : Edges.KINDS) {
      for (long w : new long[] {0, 1, 6, Edges.top(isLong), Edges.all(isLong)}) {
        Bitwords x = Edges.of(isLong, w, 3, 0, w);
        edges.due("isSound()", x.isSound(), true);
        edges.due("the last v", x.digest() - (unbounded(x).longValue() - 1), 1L);
      }
    }
  }

  private static void digestChangesNothing() {
    for (int length : new int[] {0, 3, 80}) {
      Bitwords x = Edges.busy();
      Check.type(x, "#".repeat(length));
      String before = Check.state(x);
      long once = x.digest();
      edges.due("twice", x.digest(), once);
      edges.due("what stands then", Check.state(x), before);
    }
  }
}
