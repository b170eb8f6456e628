/** Promises 51 to 54: the whole. */
final class WholeTest {
  private static final int MIN = Integer.MIN_VALUE;
  private static final int MAX = Integer.MAX_VALUE;
  private static final Check check = new Check();

  public static void main(String[] args) {
    houseOfRefusals();
    houseOfKnocks();
    houseOfTextAndOnes();
    houseWrong();
    isSound();
    isSoundChangesNothing();
    digestOfANewObject();
    digestOfAll();
    digestChangesNothing();
    check.end();
  }

  private static void houseOfRefusals() {
    Bitwords x = Check.ofLongs(1);
    Check.Call[] refused = {
      () -> x.nextSet(true, 3), () -> x.divide(true, 0, 3, true), () -> x.inverse(true, 3), () -> x.exact(true, 0, 3),
      () -> x.polyDivide(true, 0, 3, true), () -> x.polyInverse(true, 3), () -> x.read(true, 0, 10),
      () -> x.readNumber(true, 0), () -> x.decode(true, 0)
    };
    for (int i = 0; i < refused.length; i++) {
      check.due("51: refused before " + i, x.house(0), i);
      check.due("51: REFUSED " + i, refused[i].answer(), -9);
    }
    check.due("51: refused in all", x.house(0), 9);
    check.fails("51: what throws is not counted", x, Check.INDEX, () -> x.divide(true, 4, 3, true));
    check.due("51: none is not REFUSED", x.select(true, 0, 9), -1);
    check.due("51: refused in all", x.house(0), 9);
  }

  private static void houseOfKnocks() {
    Bitwords x = new Bitwords();
    for (int i = 0; i < 5; i++) {
      check.due("51: knocked before " + i, x.house(1), i);
      check.due("52: knock", x.knock(), i + 1);
    }
    check.due("52: another object was not knocked", new Bitwords().knock(), 1);
  }

  private static void houseOfTextAndOnes() {
    Bitwords x = Check.type(Check.ofLongs(-1, -1, 1, 3), "abc");
    for (int k = 0; k < 4; k++) {
      Check.putShort(x, k, 7);
    }
    check.due("51: the length", x.house(2), 3);
    check.due("51: all ones", x.house(3), 64 + 64 + 1 + 2 + 12);
    x.noText();
    check.due("51: the length of none", x.house(2), 0);
    check.due("51: of a new one", new Bitwords().house(3), 0);
  }

  private static void houseWrong() {
    for (int wrong : new int[] {-1, 4, MIN, MAX}) {
      Bitwords x = Check.ofLongs(5);
      check.fails("51: what " + wrong, x, Check.ARGUMENT, () -> x.house(wrong));
    }
  }

  private static void isSound() {
    long[] edges = {0, 1, -1, 2, Long.MIN_VALUE, Long.MAX_VALUE, 0x80000000L, 0xffffffffL, 0x123456789abcdefL};
    for (long a : edges) {
      for (long b : edges) {
        Bitwords x = Check.ofLongs(a, b, ~a, a ^ b);
        Check.putShort(x, 0, (int) a);
        Check.putShort(x, 1, (int) b);
        Check.putShort(x, 2, (int) (a >>> 32));
        check.due("53: with " + a + " and " + b, x.isSound(), true);
      }
    }
  }

  private static void isSoundChangesNothing() {
    Bitwords x = Check.type(Check.ofLongs(5, 0, -1, 7), "-a#");
    x.decode(true, 0);
    String before = Check.state(x);
    check.due("53: isSound", x.isSound(), true);
    check.due("53: what stands then", Check.state(x), before);
  }

  /** House all 0; each empty word tells 0, SIZE, SIZE, NONE, NONE, 0, 0, 0, 0, 1; sound. */
  private static void digestOfANewObject() {
    long d = 7810;
    for (int i = 0; i < 4; i++) {
      d = d * 31;
    }
    for (int w = 0; w < 8; w++) {
      int size = w < 4 ? 64 : 32;
      for (int v : new int[] {0, size, size, -1, -1, 0, 0, 0, 0, 1}) {
        d = d * 31 + v;
      }
    }
    check.due("54: of a new object", new Bitwords().digest(), d * 31 + 1);
  }

  private static void digestOfAll() {
    Bitwords x = Check.type(Check.ofLongs(6, -1, Long.MIN_VALUE, 1), "-z+#9");
    Check.putShort(x, 3, -2);
    x.knock();
    x.knock();
    x.decode(true, 0);
    long d = 7810;
    for (int v : new int[] {1, 2, 5, 2 + 64 + 1 + 1 + 31, '-', 'z', '+', '#', '9'}) {
      d = d * 31 + v;
    }
    int[][] words = {
      {2, 61, 1, 2, 1, 1, 6, 0, 6, 64}, {64, 0, 0, 63, 0, -1, -1, -1, 0, 1}, {1, 0, 63, 63, 63, -1, 0, MIN, MIN, 64},
      {1, 63, 0, 0, 0, 1, 1, 0, 1, 64}, {0, 32, 32, -1, -1, 0, 0, 0, 0, 1}, {0, 32, 32, -1, -1, 0, 0, 0, 0, 1},
      {0, 32, 32, -1, -1, 0, 0, 0, 0, 1}, {31, 0, 1, 31, 1, -1, -2, 0, -2, 32}
    };
    for (int[] word : words) {
      for (int v : word) {
        d = d * 31 + v;
      }
    }
    check.due("54: of all", x.digest(), d * 31 + 1);
  }

  private static void digestChangesNothing() {
    Bitwords x = Check.type(Check.ofLongs(5, 0, -1, 7), "-a#");
    String before = Check.state(x);
    check.due("54: twice the same", x.digest(), x.digest());
    check.due("54: what stands then", Check.state(x), before);
  }
}
