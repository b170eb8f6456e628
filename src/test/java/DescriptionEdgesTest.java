import java.lang.reflect.InvocationTargetException;
import java.lang.reflect.Method;
import java.lang.reflect.Modifier;
import java.math.BigInteger;
import java.util.Arrays;
import java.util.HashSet;
import java.util.Set;

/** The description, sentence by sentence: what holds for more than one promise. */
final class DescriptionEdgesTest {
  private static final int OF_ALL = Edges.DESCRIPTION;
  private static final String SIGNS = "0123456789abcdefghijklmnopqrstuvwxyz-+#";
  private static final Edges edges = new Edges();

  public static void main(String[] args) {
    edges.says(OF_ALL, "Whole numbers. NONE is -1.", DescriptionEdgesTest::none);
    edges.says(OF_ALL, "REFUSED is -9: it is told where a method names it", DescriptionEdgesTest::refused);
    edges.says(OF_ALL, "nothing changes then but what is counted", DescriptionEdgesTest::refusedChangesNothing);
    edges.says(OF_ALL, "A method that throws an exception changes nothing.",
        DescriptionEdgesTest::whatThrowsChangesNothing);
    edges.says(OF_ALL, "If several exceptions apply, the one that is named first is thrown",
        DescriptionEdgesTest::firstNamed);
    edges.says(OF_ALL, "exceptions go ahead of REFUSED", DescriptionEdgesTest::exceptionsAheadOfRefused);
    edges.says(OF_ALL, "LONGS 0 to 3 have the SIZE 64, SHORTS 0 to 3 the SIZE 32", DescriptionEdgesTest::sizes);
    edges.says(OF_ALL, "a WORD is one of these (isLong tells which kind, k its number)",
        DescriptionEdgesTest::eachWordAlone);
    edges.says(OF_ALL, "A WORD has at each PLACE from 0 to SIZE - 1 a digit, 0 or 1",
        DescriptionEdgesTest::eachPlaceAlone);
    edges.says(OF_ALL, "a digit, 0 or 1 (all 0 at first)", DescriptionEdgesTest::allZeroAtFirst);
    edges.says(OF_ALL, "ONES are the PLACES with a 1.", DescriptionEdgesTest::placesWithAOne);
    edges.says(OF_ALL, "It is EMPTY without ONES.", DescriptionEdgesTest::emptyAgain);
    edges.says(OF_ALL, "Its NUMBER is the sum of 2^p over its ONES p", DescriptionEdgesTest::numberIsASum);
    edges.says(OF_ALL, "from 0 to 2^SIZE - 1", DescriptionEdgesTest::numbers);
    edges.says(OF_ALL, "Its SIGNED number is that, 2^SIZE less, if SIZE - 1 is one of its ONES",
        DescriptionEdgesTest::signedNumbers);
    edges.says(OF_ALL,
        "To become a number is to become the WORD whose NUMBER is the rest of that by 2^SIZE (from 0 on)",
        DescriptionEdgesTest::restBySize);
    edges.says(OF_ALL, "As a POLYNOMIAL it is the sum of x^p over its ONES p", DescriptionEdgesTest::polynomialIsASum);
    edges.says(OF_ALL, "numbers by which a power of x is taken are 0 or 1, and 1 and 1 is 0",
        DescriptionEdgesTest::oneAndOne);
    edges.says(OF_ALL, "DEGREE is its greatest one (NONE of an EMPTY one).", DescriptionEdgesTest::degrees);
    edges.says(OF_ALL, "A method that changes a WORD tells how many ONES it has then, if nothing else is said",
        DescriptionEdgesTest::tellsOnes);
    edges.says(OF_ALL, "Where two WORDS are named, they are of the same kind, if nothing else is said",
        DescriptionEdgesTest::sameKind);
    edges.says(OF_ALL, "and may be the same one", DescriptionEdgesTest::sameWord);
    edges.says(OF_ALL,
        "To SWAP by a WIDTH b: what is at p comes to the PLACE p, with the digit 2^b of its number turned",
        DescriptionEdgesTest::swapOfEachPlace);
    edges.says(OF_ALL, "(that is p + 2^b, or p - 2^b)", DescriptionEdgesTest::swapUpAndDown);
    edges.says(OF_ALL, "To SHUFFLE: what is at p comes to 2 * p, if p is below SIZE / 2",
        DescriptionEdgesTest::shuffleOfTheLower);
    edges.says(OF_ALL, "and otherwise to 2 * (p - SIZE / 2) + 1", DescriptionEdgesTest::shuffleOfTheHigher);
    edges.says(OF_ALL, "to shuffle back undoes that", DescriptionEdgesTest::shuffleBack);
    edges.says(OF_ALL, "RANK of p (0 to SIZE): how many ONES are below p.", DescriptionEdgesTest::ranks);
    edges.says(OF_ALL, "SELECT n: the ONE below which there are n others.", DescriptionEdgesTest::selects);
    edges.says(OF_ALL, "GRAY of a WORD: at p the digit xor that at p + 1 (0 beyond the last one)",
        DescriptionEdgesTest::grayOfEachPlace);
    edges.says(OF_ALL, "To go a STEP: of the WORD that is the GRAY of the NUMBER n it becomes the GRAY of n + 1",
        DescriptionEdgesTest::stepFromGrayToGray);
    edges.says(OF_ALL, "(of the greatest one that of 0)", DescriptionEdgesTest::stepBeyond);
    edges.says(OF_ALL, "The TEXT in HAND (\"\" at first) has at most 80 signs.", DescriptionEdgesTest::textTo80);
    edges.says(OF_ALL,
        "It is typed by numbers: 0 to 9 the digits, 10 to 35 the letters \"a\" to \"z\", 36 \"-\", 37 \"+\", 38 \"#\"",
        DescriptionEdgesTest::signs);
    edges.says(OF_ALL, "Digits by a BASE (2 to 36) are the first BASE of these 36 signs, by what they stand for.",
        DescriptionEdgesTest::digits);
    edges.says(OF_ALL, "READ by a BASE is a TEXT so: it may begin with \"-\" or \"+\"",
        DescriptionEdgesTest::readWithSign);
    edges.says(OF_ALL, "then come one digit by the BASE or more", DescriptionEdgesTest::readOneDigit);
    edges.says(OF_ALL, "the greatest one first (0 may stand ahead)", DescriptionEdgesTest::readWithZeros);
    edges.says(OF_ALL, "and nothing else", DescriptionEdgesTest::readNothingElse);
    edges.says(OF_ALL, "It is what these tell as a number by the BASE", DescriptionEdgesTest::readDigitByDigit);
    edges.says(OF_ALL, "below 0 with \"-\"", DescriptionEdgesTest::readBelow0);
    edges.says(OF_ALL, "The constructor and the methods follow, a promise each: the signature, then what it does.",
        DescriptionEdgesTest::aPromiseEach);
    edges.end(OF_ALL, OF_ALL);
  }

  // ---- whole numbers

  private static void none() {
    for (boolean isLong : Edges.KINDS) {
      Bitwords x = Edges.of(isLong, 0, 1);
      int[] answers = {
        x.ofWord(isLong, 0, 3), x.ofWord(isLong, 0, 4), x.select(isLong, 0, 0), x.turnsTo(isLong, 0, 1),
        x.reverse(isLong, 0), x.reverseBytes(isLong, 0), x.rotate(isLong, 0, 1), x.swap(isLong, 0, 0),
        x.shuffle(isLong, 0, true), x.polyDivide(isLong, 0, 1, true), x.polyGcd(isLong, 0, 0)
      };
      for (int i = 0; i < answers.length; i++) {
        edges.due(Edges.nameOf(isLong) + ", answer " + i, answers[i], -1);
      }
    }
    edges.due("typed", new Bitwords().type(-1, -1, -1, -1, -1, 1), 1);
  }

  /** All that is refused of such an object: word 0 is even, word 1 EMPTY, and the TEXT can't be READ. */
  private static Bitwords refusing(boolean isLong) {
    Bitwords x = Check.type(Edges.of(isLong, 6, 0, 5, 7), "-#");
    Check.putLong(x, isLong ? 0 : 2, isLong ? 6 : 9);
    x.knock();
    return x;
  }

  private static Check.Call[] refusedCalls(Bitwords x, boolean isLong) {
    return new Check.Call[] {
      () -> x.nextSet(isLong, 1), () -> x.divide(isLong, 0, 1, false), () -> x.divide(isLong, 0, 1, true),
      () -> x.divide(isLong, 1, 1, false), () -> x.inverse(isLong, 0), () -> x.inverse(isLong, 1),
      () -> x.exact(isLong, 2, 0), () -> x.exact(isLong, 2, 1), () -> x.exact(isLong, 1, 1),
      () -> x.polyDivide(isLong, 0, 1, false), () -> x.polyDivide(isLong, 0, 1, true),
      () -> x.polyDivide(isLong, 1, 1, true), () -> x.polyInverse(isLong, 0), () -> x.polyInverse(isLong, 1),
      () -> x.read(isLong, 0, 2), () -> x.read(isLong, 3, 36), () -> x.readNumber(isLong, 0), () -> x.decode(isLong, 0)
    };
  }

  private static void refused() {
    for (boolean isLong : Edges.KINDS) {
      Check.Call[] calls = refusedCalls(refusing(isLong), isLong);
      for (int i = 0; i < calls.length; i++) {
        edges.due(Edges.nameOf(isLong) + ", answer " + i, calls[i].answer(), -9);
      }
    }
  }

  private static void refusedChangesNothing() {
    for (boolean isLong : Edges.KINDS) {
      for (int i = 0; i < refusedCalls(null, isLong).length; i++) {
        Bitwords x = refusing(isLong);
        edges.refuses(Edges.nameOf(isLong) + ", call " + i, x, refusedCalls(x, isLong)[i]);
        edges.due("how often it was told", x.house(0), 1);
        edges.refuses(Edges.nameOf(isLong) + ", call " + i + " again", x, refusedCalls(x, isLong)[i]);
        edges.due("how often it was told", x.house(0), 2);
      }
    }
  }

  /**
   * Every method with numbers of which one lies far off, or all are alike: what is thrown is named by its signature,
   * each of those that are named there comes up, and nothing has changed.
   */
  private static void whatThrowsChangesNothing() {
    for (Method method : Bitwords.class.getDeclaredMethods()) {
      if (method.getExceptionTypes().length > 0 && Modifier.isPublic(method.getModifiers())) {
        Set<Class<?>> seen = new HashSet<>();
        for (int alike = -2; alike <= 5; alike++) {
          for (int far : new int[] {Edges.MIN, -3, alike, 100, Edges.MAX}) {
            callWithOneFar(method, alike, far, seen);
          }
        }
        edges.due(method.getName(), seen, new HashSet<>(Arrays.asList(method.getExceptionTypes())));
      }
    }
  }

  private static void callWithOneFar(Method method, int alike, int far, Set<Class<?>> seen) {
    Class<?>[] kinds = method.getParameterTypes();
    for (int at = 0; at < kinds.length; at++) {
      Object[] arguments = new Object[kinds.length];
      for (int i = 0; i < kinds.length; i++) {
        Object number = i == at ? far : alike;
        arguments[i] = kinds[i] == boolean.class ? (Object) ((alike + at) % 2 == 0) : number;
      }
      Bitwords x = Check.type(Edges.busy(), "1".repeat(78));
      String before = Check.state(x);
      try {
        method.invoke(x, arguments);
      } catch (InvocationTargetException e) {
        seen.add(e.getCause().getClass());
        edges.due(method.getName() + Arrays.toString(arguments), Check.state(x), before);
      } catch (IllegalAccessException e) {
        edges.due(method.getName(), e, null);
      }
    }
  }

  private static void firstNamed() {
    for (int k : new int[] {-1, 4}) {
      for (boolean isLong : Edges.KINDS) {
        Bitwords x = Edges.busy();
        edges.fails("ofWord", x, Check.INDEX, () -> x.ofWord(isLong, k, 10));
        edges.fails("mix", x, Check.INDEX, () -> x.mix(isLong, 0, k, 4));
        edges.fails("areSo", x, Check.INDEX, () -> x.areSo(isLong, 0, k, 5));
        edges.fails("shift", x, Check.INDEX, () -> x.shift(isLong, k, 64, 3));
        edges.fails("swap", x, Check.INDEX, () -> x.swap(isLong, k, 6));
        edges.fails("by", x, Check.INDEX, () -> x.by(isLong, k, 7));
        edges.fails("text", x, Check.INDEX, () -> x.text(isLong, k, 5));
        edges.fails("textIn", x, Check.INDEX, () -> x.textIn(isLong, k, 1));
        edges.fails("carry", x, Check.INDEX, () -> x.carry(isLong, k, 37));
        edges.fails("read", x, Check.INDEX, () -> x.read(isLong, k, 1));
      }
    }
    Bitwords x = Check.type(new Bitwords(), "1".repeat(80));
    edges.fails("type", x, Check.ARGUMENT, () -> x.type(1, 1, 1, 1, 1, 39));
    edges.fails("type", x, Check.ARGUMENT, () -> x.type(-2, 1, 1, 1, 1, 1));
  }

  private static void exceptionsAheadOfRefused() {
    for (boolean isLong : Edges.KINDS) {
      Bitwords x = refusing(isLong);
      edges.fails("divide", x, Check.INDEX, () -> x.divide(isLong, 4, 1, false));
      edges.fails("exact", x, Check.INDEX, () -> x.exact(isLong, 4, 1));
      edges.fails("polyDivide", x, Check.INDEX, () -> x.polyDivide(isLong, 4, 1, true));
      edges.fails("read of no WORD", x, Check.INDEX, () -> x.read(isLong, 4, 10));
      edges.fails("read by no BASE", x, Check.ARGUMENT, () -> x.read(isLong, 0, 37));
      edges.fails("readNumber", x, Check.INDEX, () -> x.readNumber(isLong, -1));
      edges.fails("decode", x, Check.INDEX, () -> x.decode(isLong, 4));
      edges.due("how often it was told", x.house(0), 0);
    }
  }

  // ---- words

  private static void sizes() {
    for (boolean isLong : Edges.KINDS) {
      int size = isLong ? 64 : 32;
      for (int k = 0; k < 4; k++) {
        int any = k;
        Bitwords x = new Bitwords();
        edges.due("ONES of all", x.complement(isLong, k), size);
        edges.due("PLACES above 0", x.only(isLong, k, false) + x.ofWord(isLong, k, 1), size);
        edges.due("the last", x.digit(isLong, k, size - 1), 0);
        edges.fails("beyond the last", x, Check.INDEX, () -> x.digit(isLong, any, size));
      }
    }
  }

  private static void eachWordAlone() {
    Bitwords x = new Bitwords();
    for (int k = 0; k < 4; k++) {
      x.put(true, k, 0, 1 << k);
      x.put(false, k, 0, 16 << k);
    }
    for (int k = 0; k < 4; k++) {
      edges.due("LONG " + k, x.ofWord(true, k, 6), 1 << k);
      edges.due("SHORT " + k, x.ofWord(false, k, 6), 16 << k);
    }
  }

  private static void allZeroAtFirst() {
    Bitwords x = new Bitwords();
    for (boolean isLong : Edges.KINDS) {
      for (int place = 0; place < Edges.sizeOf(isLong); place++) {
        for (int k = 0; k < 4; k++) {
          edges.due(Edges.nameOf(isLong) + " " + k + " at " + place, x.digit(isLong, k, place), 0);
        }
      }
      x = new Bitwords();
    }
  }

  /** Set, and seen at no other PLACE, and in no other WORD. */
  private static void eachPlaceAlone() {
    for (boolean isLong : Edges.KINDS) {
      int size = Edges.sizeOf(isLong);
      for (int place = 0; place < size; place++) {
        int k = place % 4;
        Bitwords x = new Bitwords();
        x.set(isLong, k, place, true);
        for (int other = 0; other < size; other++) {
          edges.due(place + " set, that at " + other, x.digit(isLong, k, other), other == place ? 1 : 0);
        }
        edges.due("ONES of all", x.house(3), 1);
        x.set(isLong, k, place, false);
        edges.due("ONES of all, with 0 again", x.house(3), 0);
      }
    }
  }

  /** Told as a row, one after the other, by how many there are, and by the first and the last. */
  private static void placesWithAOne() {
    for (boolean isLong : Edges.KINDS) {
      int last = Edges.sizeOf(isLong) - 1;
      for (int p = 1; p < last; p++) {
        int[] ones = {0, p, last};
        Bitwords x = new Bitwords();
        for (int one : ones) {
          x.set(isLong, 0, one, true);
        }
        for (int n = 0; n < ones.length; n++) {
          edges.due("ONE " + n + " with that at " + p, x.select(isLong, 0, n), ones[n]);
        }
        edges.due("how many", x.ofWord(isLong, 0, 0), 3);
        edges.due("the least", x.ofWord(isLong, 0, 4), 0);
        edges.due("beyond the last", x.select(isLong, 0, 3), Edges.NONE);
      }
    }
  }

  private static void emptyAgain() {
    for (boolean isLong : Edges.KINDS) {
      for (int place : new int[] {0, 31, Edges.sizeOf(isLong) - 1}) {
        Bitwords x = new Bitwords();
        x.set(isLong, 0, place, true);
        edges.due("with one at " + place, x.ofWord(isLong, 0, 1) == Edges.sizeOf(isLong), false);
        x.set(isLong, 0, place, false);
        edges.due("without it", x.ofWord(isLong, 0, 1), Edges.sizeOf(isLong));
        edges.due("without it", x.divide(isLong, 1, 0, false), Edges.REFUSED);
      }
    }
  }

  private static void dueTold(int what, boolean isLong, long w, String want) {
    Bitwords x = Edges.of(isLong, w);
    edges.due(Edges.nameOf(isLong) + " " + Long.toHexString(w), x.text(isLong, 0, what), want);
  }

  /** Of each ONE alone, and one more each time. */
  private static void numberIsASum() {
    for (boolean isLong : Edges.KINDS) {
      BigInteger sum = BigInteger.ZERO;
      Bitwords x = new Bitwords();
      for (int p = 0; p < Edges.sizeOf(isLong); p++) {
        int place = p * 13 % Edges.sizeOf(isLong);
        BigInteger power = BigInteger.TWO.pow(place);
        sum = sum.add(power);
        x.set(isLong, 0, place, true);
        edges.due("with that at " + place, x.text(isLong, 0, 3), sum.toString());
        Bitwords y = new Bitwords();
        y.set(isLong, 0, place, true);
        edges.due("that at " + place + " alone", y.text(isLong, 0, 3), power.toString());
      }
    }
  }

  private static void numbers() {
    dueTold(3, true, 0, "0");
    dueTold(3, true, -1, "18446744073709551615");
    dueTold(3, false, 0, "0");
    dueTold(3, false, 0xffffffffL, "4294967295");
  }

  private static void signedNumbers() {
    dueTold(4, true, Long.MAX_VALUE, "9223372036854775807");
    dueTold(4, true, Long.MIN_VALUE, "-9223372036854775808");
    dueTold(4, true, -1, "-1");
    dueTold(4, true, 0x80000000L, "2147483648");
    dueTold(4, false, 0x7fffffffL, "2147483647");
    dueTold(4, false, 0x80000000L, "-2147483648");
    dueTold(4, false, 0xffffffffL, "-1");
  }

  private static void restBySize() {
    for (boolean isLong : Edges.KINDS) {
      long all = Edges.all(isLong);
      Bitwords x = Edges.of(isLong, all, 1, 2);
      edges.makes("2^SIZE - 1", x, isLong, x.plus(isLong, 0, 3, false), Edges.sizeOf(isLong), all);
      edges.makes("2^SIZE", x, isLong, x.plus(isLong, 0, 1, false), 0, 0);
      edges.makes("-1", x, isLong, x.plus(isLong, 0, 1, true), Edges.sizeOf(isLong), all);
      edges.makes("(2^SIZE - 1) * 2", x, isLong, x.times(isLong, 0, 2, false), Edges.sizeOf(isLong) - 1, all - 1);
      edges.makes("2 less 2^SIZE", x, isLong, x.negate(isLong, 0), 1, 2);
    }
  }

  /** x^p by x^q is x^(p + q), and by 1 and x^q it is x^p and x^(p + q). */
  private static void polynomialIsASum() {
    for (boolean isLong : Edges.KINDS) {
      int size = Edges.sizeOf(isLong);
      for (int p = 0; p < size; p++) {
        for (int q = 1; q < size; q++) {
          long both = p + q < size ? 1L << (p + q) : 0;
          Bitwords x = Edges.of(isLong, 1L << p, 1L << q);
          String call = "x^" + p + " by x^" + q;
          edges.makes(call, x, isLong, x.polyTimes(isLong, 0, 1), Edges.onesOf(both), both);
          Bitwords y = Edges.of(isLong, 1L << p, 1L << q | 1);
          edges.makes(call + " + 1", y, isLong, y.polyTimes(isLong, 0, 1), Edges.onesOf(both) + 1, both | 1L << p);
        }
      }
    }
  }

  private static void oneAndOne() {
    for (boolean isLong : Edges.KINDS) {
      Bitwords x = Edges.of(isLong, 3, 3);
      edges.makes("(x + 1) (x + 1)", x, isLong, x.polyTimes(isLong, 0, 1), 2, 5);
      edges.makes("back", x, isLong, x.polyDivide(isLong, 0, 1, false), 1, 3);
    }
  }

  private static void degrees() {
    for (boolean isLong : Edges.KINDS) {
      long all = Edges.all(isLong);
      int last = Edges.sizeOf(isLong) - 1;
      Bitwords x = Edges.of(isLong, 0, 1, Edges.top(isLong), all);
      int[] want = {Edges.NONE, 0, last, last};
      for (int k = 0; k < 4; k++) {
        edges.due(Edges.nameOf(isLong) + " " + k, x.ofWord(isLong, k, 3), want[k]);
        edges.due(Edges.nameOf(isLong) + " " + k, x.polyGcd(isLong, k, k), want[k]);
      }
    }
  }

  private static void tellsOnes() {
    for (boolean isLong : Edges.KINDS) {
      int size = Edges.sizeOf(isLong);
      Bitwords x = new Bitwords();
      edges.due("complement", x.complement(isLong, 0), size);
      edges.due("copy", x.copy(isLong, 1, 0), size);
      edges.due("mix", x.mix(isLong, 0, 1, 2), 0);
      edges.due("plus", x.plus(isLong, 0, 1, true), 1);
      edges.due("negate", x.negate(isLong, 0), size);
      edges.due("gray", x.gray(isLong, 0, false), 1);
      edges.due("gray back", x.gray(isLong, 0, true), size);
      edges.due("only", x.only(isLong, 0, true), 1);
      edges.due("shift", x.shift(isLong, 0, size - 1, 2), size);
    }
  }

  private static void sameKind() {
    for (boolean isLong : Edges.KINDS) {
      Bitwords x = Edges.of(isLong, 6, 3);
      Check.putLong(x, isLong ? 0 : 1, isLong ? 6 : 8);
      edges.due("distance", x.distance(isLong, 0, 1), 2);
      edges.due("compare", x.compare(isLong, 0, 1, false), 1);
      edges.makes("plus", x, isLong, x.plus(isLong, 0, 1, false), 2, 9);
      edges.makes("divide", x, isLong, x.divide(isLong, 0, 1, false), 2, 3);
      edges.due("areSo", x.areSo(isLong, 0, 1, 0), true);
    }
  }

  private static void sameWord() {
    for (boolean isLong : Edges.KINDS) {
      for (long w : new long[] {1, 6, Edges.top(isLong), Edges.all(isLong)}) {
        Bitwords x = Edges.of(isLong, w);
        edges.due("distance", x.distance(isLong, 0, 0), 0);
        edges.due("areSo", x.areSo(isLong, 0, 0, 0), true);
        edges.due("turnsTo", x.turnsTo(isLong, 0, 0), 0);
        edges.due("compare", x.compare(isLong, 0, 0, true), 0);
        edges.makes("copy", x, isLong, x.copy(isLong, 0, 0), Edges.onesOf(w), w);
        edges.makes("extreme", x, isLong, x.extreme(isLong, 0, 0, true), 0, w);
        edges.makes("mix", x, isLong, x.mix(isLong, 0, 0, 1), Edges.onesOf(w), w);
        edges.makes("polyGcd", x, isLong, x.polyGcd(isLong, 0, 0), x.ofWord(isLong, 0, 3), w);
        edges.makes("exact", x, isLong, x.exact(isLong, 0, 0), 1, 1);
        edges.makes("times", x, isLong, x.times(isLong, 0, 0, false), 1, 1);
        edges.makes("polyTimes", x, isLong, x.polyTimes(isLong, 0, 0), 1, 1);
        edges.makes("polyDivide", x, isLong, x.polyDivide(isLong, 0, 0, false), 0, 1);
        edges.makes("divide", x, isLong, x.divide(isLong, 0, 0, false), 1, 1);
        edges.makes("plus", x, isLong, x.plus(isLong, 0, 0, true), 0, 0);
      }
    }
  }

  // ---- places

  private static void swapOfEachPlace() {
    for (boolean isLong : Edges.KINDS) {
      for (int b = 0; b < (isLong ? 6 : 5); b++) {
        for (int p = 0; p < Edges.sizeOf(isLong); p++) {
          int to = p / (1 << b) % 2 == 0 ? p + (1 << b) : p - (1 << b);
          Bitwords x = Edges.of(isLong, 1L << p);
          edges.makes("of that at " + p + " by " + b, x, isLong, x.swap(isLong, 0, b), to, 1L << to);
        }
      }
    }
  }

  /** With a ONE at both PLACES nothing changes; with all ONES of which 2^b is in the number, all that are without. */
  private static void swapUpAndDown() {
    for (boolean isLong : Edges.KINDS) {
      for (int b = 0; b < (isLong ? 6 : 5); b++) {
        long with = 0;
        for (int p = 0; p < Edges.sizeOf(isLong); p++) {
          with |= (p & 1 << b) != 0 ? 1L << p : 0;
        }
        long without = Edges.all(isLong) - with;
        Bitwords x = Edges.of(isLong, with);
        edges.makes("down by " + b, x, isLong, x.swap(isLong, 0, b), 0, without);
        edges.makes("up by " + b, x, isLong, x.swap(isLong, 0, b), 1 << b, with);
        long pair = 1L | 1L << (1 << b);
        Bitwords y = Edges.of(isLong, pair);
        edges.makes("both by " + b, y, isLong, y.swap(isLong, 0, b), 0, pair);
      }
    }
  }

  private static void shuffleOfTheLower() {
    for (boolean isLong : Edges.KINDS) {
      for (int p = 0; p < Edges.sizeOf(isLong) / 2; p++) {
        Bitwords x = Edges.of(isLong, 1L << p);
        edges.makes("of that at " + p, x, isLong, x.shuffle(isLong, 0, false), 2 * p, 1L << (2 * p));
      }
    }
  }

  private static void shuffleOfTheHigher() {
    for (boolean isLong : Edges.KINDS) {
      int half = Edges.sizeOf(isLong) / 2;
      for (int p = half; p < 2 * half; p++) {
        int to = 2 * (p - half) + 1;
        Bitwords x = Edges.of(isLong, 1L << p);
        edges.makes("of that at " + p, x, isLong, x.shuffle(isLong, 0, false), to, 1L << to);
      }
    }
  }

  private static void shuffleBack() {
    for (boolean isLong : Edges.KINDS) {
      for (int p = 0; p < Edges.sizeOf(isLong); p++) {
        Bitwords x = Edges.of(isLong, 1L << p);
        x.shuffle(isLong, 0, false);
        edges.makes("of that at " + p, x, isLong, x.shuffle(isLong, 0, true), p, 1L << p);
        x.shuffle(isLong, 0, true);
        edges.makes("and first back", x, isLong, x.shuffle(isLong, 0, false), p, 1L << p);
      }
    }
  }

  private static void ranks() {
    for (boolean isLong : Edges.KINDS) {
      int size = Edges.sizeOf(isLong);
      for (int p = 0; p < size; p++) {
        Bitwords x = Edges.of(isLong, 1L << p);
        edges.due("at the ONE", x.rank(isLong, 0, p), 0);
        edges.due("behind the ONE", x.rank(isLong, 0, p + 1), 1);
        edges.due("at SIZE", x.rank(isLong, 0, size), 1);
      }
    }
  }

  private static void selects() {
    for (boolean isLong : Edges.KINDS) {
      for (int p = 1; p < Edges.sizeOf(isLong); p++) {
        Bitwords x = Edges.of(isLong, (1L << p) | 1, (1L << p) | (1L << (p - 1)));
        edges.due("none below", x.select(isLong, 0, 0), 0);
        edges.due("one below", x.select(isLong, 0, 1), p);
        edges.due("two below", x.select(isLong, 0, 2), Edges.NONE);
        edges.due("none below, side by side", x.select(isLong, 1, 0), p - 1);
        edges.due("one below, side by side", x.select(isLong, 1, 1), p);
      }
    }
  }

  private static void grayOfEachPlace() {
    for (boolean isLong : Edges.KINDS) {
      for (int p = 0; p < Edges.sizeOf(isLong); p++) {
        long then = (1L << p) | (p == 0 ? 0 : 1L << (p - 1));
        Bitwords x = Edges.of(isLong, 1L << p);
        edges.makes("of that at " + p, x, isLong, x.gray(isLong, 0, false), Edges.onesOf(then), then);
        edges.makes("and back", x, isLong, x.gray(isLong, 0, true), 1, 1L << p);
      }
    }
  }

  private static void stepFromGrayToGray() {
    for (boolean isLong : Edges.KINDS) {
      for (int p = 0; p < Edges.sizeOf(isLong); p++) {
        for (long n = Math.max(0, (1L << p) - 3); n != (1L << p) + 3; n++) {
          long number = n & Edges.all(isLong);
          long next = (number + 1) & Edges.all(isLong);
          Bitwords x = Edges.of(isLong, number, next);
          x.gray(isLong, 0, false);
          x.gray(isLong, 1, false);
          x.step(isLong, 0);
          edges.due(Edges.nameOf(isLong) + " from " + number, x.areSo(isLong, 0, 1, 0), true);
          edges.makes("back", x, isLong, x.gray(isLong, 0, true), Edges.onesOf(next), next);
        }
      }
      Bitwords x = new Bitwords();
      for (int n = 1; n <= 300; n++) {
        x.step(isLong, 0);
        edges.due(Edges.nameOf(isLong) + ", " + n + " from 0", x.ofWord(isLong, 0, 6), n ^ n >> 1);
      }
    }
  }

  private static void stepBeyond() {
    for (boolean isLong : Edges.KINDS) {
      Bitwords x = Edges.of(isLong, Edges.all(isLong));
      edges.makes("the greatest one's", x, isLong, x.gray(isLong, 0, false), 1, Edges.top(isLong));
      edges.makes("a STEP from there", x, isLong, x.step(isLong, 0), Edges.sizeOf(isLong) - 1, 0);
      edges.makes("a STEP from 0", x, isLong, x.step(isLong, 0), 0, 1);
    }
  }

  // ---- texts

  private static void textTo80() {
    Bitwords x = new Bitwords();
    edges.due("at first", x.hand(), "");
    edges.due("at first", x.house(2), 0);
    for (int length = 1; length <= 80; length++) {
      edges.due("one more", x.type(length % 39, -1, -1, -1, -1, -1), length);
    }
    edges.fails("one beyond", x, Check.STATE, () -> x.type(1, -1, -1, -1, -1, -1));
    edges.due("it stays", x.hand(), (SIGNS.substring(1) + "0").repeat(2) + "12");
  }

  private static void signs() {
    for (int sign = 0; sign < 39; sign++) {
      Bitwords x = new Bitwords();
      x.type(sign, -1, -1, -1, -1, -1);
      edges.due("sign " + sign, x.hand(), SIGNS.substring(sign, sign + 1));
    }
    for (int beyond : new int[] {-2, 39}) {
      Bitwords x = new Bitwords();
      edges.fails("sign " + beyond, x, Check.ARGUMENT, () -> x.type(beyond, -1, -1, -1, -1, -1));
    }
  }

  private static void dueRead(String text, int base, int number) {
    for (boolean isLong : Edges.KINDS) {
      Bitwords x = Check.type(Edges.of(isLong, 77), text);
      long then = number & Edges.all(isLong);
      edges.makes(text + " by " + base, x, isLong, x.read(isLong, 0, base), Edges.onesOf(then), then);
    }
  }

  private static void dueNotRead(String text, int base) {
    for (boolean isLong : Edges.KINDS) {
      Bitwords x = Check.type(Edges.of(isLong, 77), text);
      edges.refuses(Edges.nameOf(isLong) + ", " + text + " by " + base, x, () -> x.read(isLong, 0, base));
    }
  }

  private static void digits() {
    for (int base = 2; base <= 36; base++) {
      for (int digit = 0; digit < 39; digit++) {
        String text = SIGNS.substring(digit, digit + 1);
        if (digit < base) {
          dueRead(text, base, digit);
        } else {
          dueNotRead(text, base);
        }
      }
    }
  }

  private static void readWithSign() {
    dueRead("11", 2, 3);
    dueRead("+11", 2, 3);
    dueRead("-11", 2, -3);
    for (String text : new String[] {"#11", "--11", "++11", "-+11", "+-11", "1-1", "1+1", "11-", "11+"}) {
      dueNotRead(text, 2);
      dueNotRead(text, 36);
    }
  }

  private static void readOneDigit() {
    for (int base : new int[] {2, 10, 36}) {
      dueNotRead("", base);
      dueNotRead("-", base);
      dueNotRead("+", base);
      dueRead("1", base, 1);
      dueRead("-1", base, -1);
      dueRead("+1", base, 1);
    }
  }

  private static void readWithZeros() {
    dueRead("10", 36, 36);
    dueRead("01", 36, 1);
    dueRead("0", 2, 0);
    dueRead("0".repeat(80), 2, 0);
    dueRead("0".repeat(79) + "1", 2, 1);
    dueRead("-" + "0".repeat(78) + "1", 2, -1);
    dueRead("+" + "0".repeat(77) + "zz", 36, 1295);
  }

  private static void readNothingElse() {
    for (int sign = 2; sign < 39; sign++) {
      dueNotRead("1" + SIGNS.charAt(sign), 2);
      dueNotRead("1" + SIGNS.charAt(sign) + "1", 2);
    }
    dueNotRead("1-", 36);
    dueNotRead("1+", 36);
    dueNotRead("1#", 36);
    dueRead("1z", 36, 71);
  }

  /** Rows of digits that all differ, by each BASE that has them. */
  private static void readDigitByDigit() {
    String[] texts = {"10", "102", "1203", "3210", "98765", "10a", "zyx", "a0z9", "0zik", "1z141z"};
    for (String text : texts) {
      for (int base = 2; base <= 36; base++) {
        int number = 0;
        boolean isDigits = true;
        for (char sign : text.toCharArray()) {
          isDigits = isDigits && SIGNS.indexOf(sign) < base;
          number = number * base + SIGNS.indexOf(sign);
        }
        if (isDigits) {
          dueRead(text, base, number);
          dueRead("-" + text, base, -number);
        } else {
          dueNotRead(text, base);
        }
      }
    }
  }

  private static void readBelow0() {
    dueRead("-0", 10, 0);
    dueRead("-1", 10, -1);
    dueRead("-2147483648", 10, Edges.MIN);
    dueRead("2147483647", 10, Edges.MAX);
    dueRead("+2147483647", 10, Edges.MAX);
  }

  // ---- the promises

  /** Promise 1 is the constructor; each other one is a method, and there are no others. */
  private static void aPromiseEach() {
    Set<String> methods = new HashSet<>();
    for (Method method : Bitwords.class.getDeclaredMethods()) {
      if (Modifier.isPublic(method.getModifiers())) {
        methods.add(method.getName());
      }
    }
    edges.due("the constructor and the methods", methods.size() + 1, 54);
    Document document = Document.ofProperty();
    for (int promise = 2; promise <= document.promises(); promise++) {
      String signature = document.signatureOf(promise);
      String name = signature.substring(signature.indexOf(' ') + 1, signature.indexOf('('));
      edges.due("promise " + promise + " is a method, " + name, methods.remove(name), true);
    }
    edges.due("without a promise", document.promises() == 0 ? Set.of() : methods, Set.of());
  }
}
