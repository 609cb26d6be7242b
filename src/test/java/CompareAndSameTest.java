import java.math.BigInteger;

/** Promises 13 and 14: compare, same. */
public final class CompareAndSameTest {
  public static void main(String[] args) {
    compareKnown();
    compareShortNumbers();
    compareLongNumbers();
    compareRefuses();
    sameElements();
    sameWords();
    sameRefuses();
    Check.end();
  }

  private static void compared(String a, String b, int unsigned, int signed) {
    NineValues x = Check.holding(a, b);
    Check.due("compare " + a + " " + b, x.compare(false, 0, 1), unsigned);
    Check.due("compare signed " + a + " " + b, x.compare(true, 0, 1), signed);
    Check.holds("compare leaves its words", x, a, b);
  }

  private static void compareKnown() {
    compared("01", "10", -1, 1);
    compared("HL", "10", 0, 0);
    compared("11", "0011", 0, -1);
    compared("11", "1111", -1, 0);
    compared("0", "1", -1, 1);
    compared("1", "1".repeat(64), -1, 0);
    compared("1" + "0".repeat(63), "0" + "1".repeat(63), 1, -1);
    compared("1".repeat(64), "1" + "0".repeat(63), 1, 1);
    compared("", "", 2, 2);
    compared("", "0", 2, 2);
    compared("0", "", 2, 2);
    for (char value : "UXZW-".toCharArray()) {
      compared("01" + value, "011", 2, 2);
      compared("011", value + "11", 2, 2);
      compared(value + "1", value + "1", 2, 2);
    }
  }

  private static void compareShortNumbers() {
    for (int lengthOfA = 1; lengthOfA <= 4; lengthOfA++) {
      for (int lengthOfB = 1; lengthOfB <= 4; lengthOfB++) {
        for (int a = 0; a < 1 << lengthOfA; a++) {
          for (int b = 0; b < 1 << lengthOfB; b++) {
            compareNumbers(a, lengthOfA, b, lengthOfB);
          }
        }
      }
    }
  }

  private static void compareLongNumbers() {
    long[] some = {0, 1, -1, 2, -2, Long.MAX_VALUE, Long.MIN_VALUE, Long.MIN_VALUE + 1, 1L << 32, -(1L << 32)};
    int[] lengths = {31, 32, 33, 63, 64};
    for (long a : some) {
      for (long b : some) {
        for (int lengthOfA : lengths) {
          for (int lengthOfB : lengths) {
            compareNumbers(a, lengthOfA, b, lengthOfB);
          }
        }
      }
    }
  }

  private static BigInteger valueOf(long bits, int n, boolean signed) {
    BigInteger size = BigInteger.ONE.shiftLeft(n);
    BigInteger value = BigInteger.valueOf(bits).mod(size);
    return signed && value.testBit(n - 1) ? value.subtract(size) : value;
  }

  private static void compareNumbers(long a, int lengthOfA, long b, int lengthOfB) {
    NineValues x = new NineValues();
    x.number(7, lengthOfA, a);
    x.number(15, lengthOfB, b);
    for (boolean signed : new boolean[] {false, true}) {
      BigInteger p = valueOf(a, lengthOfA, signed);
      BigInteger q = valueOf(b, lengthOfB, signed);
      Check.due("compare " + p + " and " + q, x.compare(signed, 7, 15), p.compareTo(q));
    }
  }

  private static void compareRefuses() {
    NineValues x = Check.holding("011", "Z");
    for (int place : Check.NO_PLACES) {
      Check.outOfBounds("compare place " + place, () -> x.compare(false, place, 1));
      Check.outOfBounds("compare with place " + place, () -> x.compare(true, 1, place));
    }
  }

  private static void sameElements() {
    for (char p : Check.LETTERS.toCharArray()) {
      for (char q : Check.LETTERS.toCharArray()) {
        sameness("" + p, "" + q, p == q, Tables.two(Tables.MATCHED, p, q) == '1');
      }
    }
  }

  private static void sameness(String a, String b, boolean exactly, boolean matched) {
    NineValues x = Check.holding(a, b);
    Check.due("same " + a + " " + b, x.same(false, 0, 1), exactly);
    Check.due("same matched " + a + " " + b, x.same(true, 0, 1), matched);
    Check.holds("same leaves its words", x, a, b);
  }

  private static void sameWords() {
    sameness("", "", true, true);
    sameness("", "-", false, false);
    sameness("-", "", false, false);
    sameness("--", "---", false, false);
    sameness("01", "001", false, false);
    sameness("UX01ZWLH-", "UX01ZWLH-", true, false);
    sameness("01LH-", "LH01-", false, true);
    sameness("01LH-", "LH01Z", false, true);
    sameness("0110", "0111", false, false);
    sameness("0110", "1110", false, false);
    sameness("0110", "01H0", false, true);
    sameness("----", "UXZW", false, true);
    sameness("Z".repeat(64), "Z".repeat(64), true, false);
    sameness("1" + "0".repeat(63), "0".repeat(64), false, false);
    NineValues x = Check.holding("0Z");
    Check.due("a word with itself", x.same(false, 0, 0), true);
    Check.due("a word with Z matched with itself", x.same(true, 0, 0), false);
    x.fill(1, 5, 1);
    x.fill(2, 5, 4);
    x.fill(1, 2, 3);
    x.fill(2, 2, 3);
    Check.due("elements behind the words do not count", x.same(false, 1, 2), true);
  }

  private static void sameRefuses() {
    NineValues x = Check.holding("011", "Z");
    for (int place : Check.NO_PLACES) {
      Check.outOfBounds("same of place " + place, () -> x.same(false, place, 1));
      Check.outOfBounds("same with place " + place, () -> x.same(true, 1, place));
    }
  }
}
