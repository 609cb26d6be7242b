import java.math.BigInteger;

/** Promise 8: operate. */
public final class OperateTest {
  private static final String[] OPERATION = {
    "together", "and", "or", "xor", "not and", "not or", "not xor",
    "sum", "difference", "product", "quotient", "remainder", "modulus", "behind"
  };

  public static void main(String[] args) {
    tables();
    elementByElement();
    knownNumbers();
    shortNumbers();
    longNumbers();
    numbersThatDoNotCount();
    emptyWords();
    behind();
    intoItsOwnPlace();
    refusesPlaces();
    refusesArguments();
    refusesDivisors();
    Check.end();
  }

  private static String answer(int operation, boolean signed, String a, String b) {
    NineValues x = Check.holding(a, b, "ZWZ");
    x.operate(operation, signed, 0, 1, 2);
    Check.holds(OPERATION[operation] + " leaves its words", x, a, b);
    return Check.read(x, 2);
  }

  private static void due(int operation, boolean signed, String a, String b, String want) {
    String what = OPERATION[operation] + (signed ? " signed" : "") + " of " + a + " and " + b;
    Check.due(what, answer(operation, signed, a, b), want);
  }

  private static void tables() {
    for (int operation = 0; operation <= 6; operation++) {
      for (char p : Check.LETTERS.toCharArray()) {
        StringBuilder want = new StringBuilder();
        for (char q : Check.LETTERS.toCharArray()) {
          want.append(Tables.operation(operation, p, q));
        }
        due(operation, p % 2 == 0, String.valueOf(p).repeat(9), Check.LETTERS, want.toString());
      }
    }
  }

  private static void elementByElement() {
    due(0, false, "0Z1L", "ZH0H", "0HXW");
    due(1, false, "0011", "0101", "0001");
    due(2, false, "0011", "0101", "0111");
    due(3, true, "0011", "0101", "0110");
    due(4, false, "0011", "0101", "1110");
    due(5, true, "0011", "0101", "1000");
    due(6, false, "0011", "0101", "1001");
    due(1, false, "1".repeat(64), "1H" + "L".repeat(62), "11" + "0".repeat(62));
  }

  private static void knownNumbers() {
    due(7, false, "11", "0001", "0100");
    due(7, true, "11", "0001", "0000");
    due(7, false, "HHH", "LL1", "000");
    due(8, false, "0001", "11", "1110");
    due(8, true, "0001", "11", "0010");
    due(9, false, "11", "111", "10101");
    due(9, true, "11", "111", "00001");
    due(9, true, "10", "100", "01000");
    due(10, true, "1001", "10", "0011");
    due(10, true, "1001", "010", "1101");
    due(11, true, "1001", "010", "111");
    due(12, true, "1001", "010", "001");
    due(11, true, "0111", "110", "001");
    due(12, true, "0111", "110", "111");
    due(12, true, "1001", "110", "111");
    due(10, true, "1000", "1", "1000");
    due(11, true, "1000", "1", "0");
    due(12, true, "1000", "1", "0");
    due(10, false, "1001", "10", "0100");
    due(11, false, "1001", "10", "01");
    due(12, false, "1001", "10", "01");
  }

  private static BigInteger valueOf(long bits, int n, boolean signed) {
    BigInteger size = BigInteger.ONE.shiftLeft(n);
    BigInteger value = BigInteger.valueOf(bits).mod(size);
    return signed && value.testBit(n - 1) ? value.subtract(size) : value;
  }

  /** The answer of operation 7 to 12 as letters, reckoned with numbers that know no bound. */
  private static String reckoned(int operation, BigInteger p, BigInteger q, int lengthOfA, int lengthOfB) {
    switch (operation) {
      case 7:
        return bits(p.add(q), Math.max(lengthOfA, lengthOfB));
      case 8:
        return bits(p.subtract(q), Math.max(lengthOfA, lengthOfB));
      case 9:
        return bits(p.multiply(q), lengthOfA + lengthOfB);
      case 10:
        return bits(p.divide(q), lengthOfA);
      case 11:
        return bits(p.remainder(q), lengthOfB);
      default:
        BigInteger r = p.remainder(q);
        return bits(r.signum() * q.signum() < 0 ? r.add(q) : r, lengthOfB);
    }
  }

  private static String bits(BigInteger v, int n) {
    StringBuilder text = new StringBuilder();
    for (int k = n - 1; k >= 0; k--) {
      text.append(v.testBit(k) ? '1' : '0');
    }
    return text.toString();
  }

  private static void reckon(boolean signed, long a, int lengthOfA, long b, int lengthOfB) {
    BigInteger p = valueOf(a, lengthOfA, signed);
    BigInteger q = valueOf(b, lengthOfB, signed);
    for (int operation = 7; operation <= 12; operation++) {
      if (operation == 9 && lengthOfA + lengthOfB > 64 || operation >= 10 && q.signum() == 0) {
        continue;
      }
      NineValues x = new NineValues();
      x.number(3, lengthOfA, a);
      x.number(14, lengthOfB, b);
      x.operate(operation, signed, 3, 14, 15);
      String what = OPERATION[operation] + " of " + p + " and " + q + " in " + lengthOfA + ", " + lengthOfB;
      Check.due(what, Check.read(x, 15), reckoned(operation, p, q, lengthOfA, lengthOfB));
    }
  }

  private static void shortNumbers() {
    for (int lengthOfA = 1; lengthOfA <= 4; lengthOfA++) {
      for (int lengthOfB = 1; lengthOfB <= 4; lengthOfB++) {
        for (int a = 0; a < 1 << lengthOfA; a++) {
          for (int b = 0; b < 1 << lengthOfB; b++) {
            reckon(false, a, lengthOfA, b, lengthOfB);
            reckon(true, a, lengthOfA, b, lengthOfB);
          }
        }
      }
    }
  }

  private static void longNumbers() {
    long[] some = {
      1, -1, 2, -2, 3, 10, -10, Long.MAX_VALUE, Long.MAX_VALUE - 1, Long.MIN_VALUE, Long.MIN_VALUE + 1,
      0x8000000080000001L, 0xFFFFFFFFL, 0x100000000L, 0x123456789ABCDEFL, 0xFEDCBA9876543210L, 0
    };
    int[] lengths = {1, 31, 32, 33, 63, 64};
    for (long a : some) {
      for (long b : some) {
        for (int lengthOfA : lengths) {
          for (int lengthOfB : lengths) {
            reckon(false, a, lengthOfA, b, lengthOfB);
            reckon(true, a, lengthOfA, b, lengthOfB);
          }
        }
      }
    }
  }

  private static void numbersThatDoNotCount() {
    for (char value : "UXZW-".toCharArray()) {
      for (boolean signed : new boolean[] {false, true}) {
        String bad = "0" + value + "1";
        for (int operation = 7; operation <= 8; operation++) {
          due(operation, signed, bad, "10101", "XXXXX");
          due(operation, signed, "10101", bad, "XXXXX");
          due(operation, signed, bad, bad, "XXX");
        }
        due(9, signed, bad, "10101", "XXXXXXXX");
        due(9, signed, "10101", bad, "XXXXXXXX");
        due(10, signed, bad, "10101", "XXX");
        due(10, signed, "10101", bad, "XXXXX");
        due(10, signed, bad, "00000", "XXX");
        for (int operation = 11; operation <= 12; operation++) {
          due(operation, signed, bad, "10101", "XXXXX");
          due(operation, signed, "10101", bad, "XXX");
          due(operation, signed, bad, "LL", "XX");
        }
      }
    }
  }

  private static void emptyWords() {
    for (int operation = 0; operation <= 6; operation++) {
      due(operation, false, "", "", "");
    }
    for (int operation = 7; operation <= 12; operation++) {
      for (boolean signed : new boolean[] {false, true}) {
        due(operation, signed, "", "", "");
        due(operation, signed, "", "101", "");
        due(operation, signed, "101", "", "");
        due(operation, signed, "", "1Z1", "");
        due(operation, signed, "1Z1", "", "");
        due(operation, signed, "", "000", "");
        due(operation, signed, "1".repeat(64), "", "");
      }
    }
  }

  private static void behind() {
    due(13, false, "UX0", "1ZWL", "UX01ZWL");
    due(13, true, "", "H-", "H-");
    due(13, true, "H-", "", "H-");
    due(13, false, "", "", "");
    due(13, false, "Z".repeat(60), "0-1H", "Z".repeat(60) + "0-1H");
    due(13, false, "", "W".repeat(64), "W".repeat(64));
    due(13, false, "W".repeat(64), "", "W".repeat(64));
  }

  private static void intoItsOwnPlace() {
    NineValues x = Check.holding("0011", "01");
    x.operate(13, false, 0, 1, 0);
    Check.holds("behind into a", x, "001101", "01");
    x.operate(13, false, 0, 1, 1);
    Check.holds("behind into b", x, "001101", "00110101");
    x.operate(13, false, 1, 1, 1);
    Check.holds("behind into both", x, "001101", "0011010100110101");
    x.operate(9, false, 0, 0, 0);
    Check.holds("product into both", x, "000010101001");
    x.operate(6, false, 0, 0, 0);
    Check.holds("not xor into both", x, "111111111111");
    x.operate(8, true, 0, 0, 0);
    Check.holds("difference into both", x, "000000000000");
  }

  private static void refusesPlaces() {
    NineValues x = Check.holding("0011", "0000", "ZWZ");
    for (int place : Check.NO_PLACES) {
      for (int operation : new int[] {-1, 0, 9, 10, 13, 14}) {
        String what = "operation " + operation + " with place " + place;
        Check.outOfBounds(what + " as a", () -> x.operate(operation, false, place, 1, 2));
        Check.outOfBounds(what + " as b", () -> x.operate(operation, false, 0, place, 2));
        Check.outOfBounds(what + " as to", () -> x.operate(operation, true, 0, 1, place));
      }
    }
    Check.holds("after places that threw", x, "0011", "0000", "ZWZ");
  }

  private static void refusesArguments() {
    NineValues x = Check.holding("0011", "000", "ZWZ", "");
    for (int operation : new int[] {-1, 14, 15, Integer.MIN_VALUE, Integer.MAX_VALUE}) {
      Check.illegalArgument("operation " + operation, () -> x.operate(operation, false, 0, 0, 2));
    }
    for (int operation = 0; operation <= 6; operation++) {
      int k = operation;
      Check.illegalArgument(OPERATION[k] + " of 4 and 3", () -> x.operate(k, false, 0, 1, 2));
      Check.illegalArgument(OPERATION[k] + " of 3 and 4", () -> x.operate(k, false, 1, 0, 2));
      Check.illegalArgument(OPERATION[k] + " of 3 and 0", () -> x.operate(k, true, 1, 3, 2));
    }
    Check.holds("after arguments that threw", x, "0011", "000", "ZWZ", "");
    for (int operation : new int[] {9, 13}) {
      for (char value : "10XZ".toCharArray()) {
        NineValues y = Check.holding(String.valueOf(value).repeat(61), "0001", "ZWZ");
        Check.illegalArgument(OPERATION[operation] + " of 61 and 4", () -> y.operate(operation, false, 0, 1, 2));
        Check.illegalArgument(OPERATION[operation] + " of 4 and 61", () -> y.operate(operation, true, 1, 0, 2));
        Check.holds("after lengths that threw", y, String.valueOf(value).repeat(61), "0001", "ZWZ");
      }
    }
  }

  private static void refusesDivisors() {
    NineValues x = Check.holding("0011", "0L0", "ZWZ", "0Z1");
    for (int operation = 10; operation <= 12; operation++) {
      for (boolean signed : new boolean[] {false, true}) {
        int k = operation;
        Check.thrown(OPERATION[k] + " by 0", ArithmeticException.class, () -> x.operate(k, signed, 0, 1, 2));
        Check.thrown(OPERATION[k] + " of 0 by 0", ArithmeticException.class, () -> x.operate(k, signed, 1, 1, 2));
      }
    }
    Check.holds("after divisors that threw", x, "0011", "0L0", "ZWZ", "0Z1");
  }
}
