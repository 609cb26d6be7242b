import java.math.BigInteger;
import java.util.Random;

/** Promise 8, operations 10, 11 and 12, not signed, above all where a number stands from 2^63 on. */
public final class UnsignedDivisionTest {
  private static final int QUOTIENT = 10;
  private static final int REMAINDER = 11;
  private static final int MODULUS = 12;
  private static final int LONGEST = 64;
  private static final BigInteger MIDDLE = BigInteger.ONE.shiftLeft(63);
  private static final BigInteger END = BigInteger.ONE.shiftLeft(LONGEST);

  public static void main(String[] args) {
    onlyAFromTheMiddleOn();
    onlyBFromTheMiddleOn();
    bothFromTheMiddleOn();
    byOne();
    ofLessThanB();
    ofTheSame();
    inShorterWords();
    withWeakValues();
    nextToMultiples();
    anyNumbers();
    byZero();
    Check.end();
  }

  /** Operations 10 to 12 of numbers written in digits, in words of 64 elements. */
  private static void divided(String a, String b, String quotient, String rest) {
    divided(LONGEST, a, LONGEST, b, quotient, rest);
  }

  private static void divided(int lengthOfA, String a, int lengthOfB, String b, String quotient, String rest) {
    BigInteger p = new BigInteger(a);
    BigInteger q = new BigInteger(b);
    divided(lengthOfA, p, lengthOfB, q, new BigInteger(quotient), new BigInteger(rest));
  }

  private static void divided(
      int lengthOfA, BigInteger p, int lengthOfB, BigInteger q, BigInteger quotient, BigInteger rest) {
    NineValues x = new NineValues();
    x.number(0, lengthOfA, p.longValue());
    x.number(1, lengthOfB, q.longValue());
    for (int operation = QUOTIENT; operation <= MODULUS; operation++) {
      x.operate(operation, false, 0, 1, operation);
    }
    String what = " of " + p + " by " + q + " in " + lengthOfA + ", " + lengthOfB;
    Check.due("quotient" + what, Check.read(x, QUOTIENT), bits(quotient, lengthOfA));
    Check.due("remainder" + what, Check.read(x, REMAINDER), bits(rest, lengthOfB));
    Check.due("modulus" + what, Check.read(x, MODULUS), bits(rest, lengthOfB));
  }

  private static void reckon(int lengthOfA, BigInteger p, int lengthOfB, BigInteger q) {
    divided(lengthOfA, p, lengthOfB, q, p.divide(q), p.mod(q));
  }

  private static String bits(BigInteger v, int n) {
    StringBuilder text = new StringBuilder();
    for (int k = n - 1; k >= 0; k--) {
      text.append(v.testBit(k) ? '1' : '0');
    }
    return text.toString();
  }

  private static void onlyAFromTheMiddleOn() {
    divided("9223372036854775808", "2", "4611686018427387904", "0");
    divided("9223372036854775808", "3", "3074457345618258602", "2");
    divided("9223372036854775808", "9223372036854775807", "1", "1");
    divided("9223372036854775809", "2", "4611686018427387904", "1");
    divided("18446744073709551615", "2", "9223372036854775807", "1");
    divided("18446744073709551615", "3", "6148914691236517205", "0");
    divided("18446744073709551615", "10", "1844674407370955161", "5");
    divided("18446744073709551615", "4294967295", "4294967297", "0");
    divided("18446744073709551615", "4294967296", "4294967295", "4294967295");
    divided("18446744073709551615", "9223372036854775807", "2", "1");
    divided("18446744073709551614", "9223372036854775807", "2", "0");
    divided("18446744073709551613", "9223372036854775807", "1", "9223372036854775806");
    divided("18446744073709551615", "4611686018427387904", "3", "4611686018427387903");
  }

  private static void onlyBFromTheMiddleOn() {
    divided("0", "9223372036854775808", "0", "0");
    divided("1", "18446744073709551615", "0", "1");
    divided("9223372036854775807", "9223372036854775808", "0", "9223372036854775807");
    divided("9223372036854775807", "18446744073709551615", "0", "9223372036854775807");
  }

  private static void bothFromTheMiddleOn() {
    divided("9223372036854775808", "9223372036854775809", "0", "9223372036854775808");
    divided("9223372036854775809", "9223372036854775808", "1", "1");
    divided("18446744073709551615", "9223372036854775808", "1", "9223372036854775807");
    divided("18446744073709551615", "18446744073709551614", "1", "1");
    divided("18446744073709551614", "18446744073709551615", "0", "18446744073709551614");
    divided("9223372036854775808", "18446744073709551615", "0", "9223372036854775808");
  }

  private static void byOne() {
    for (String a : new String[] {
        "0", "1", "2", "9223372036854775807", "9223372036854775808", "9223372036854775809",
        "18446744073709551614", "18446744073709551615"}) {
      divided(a, "1", a, "0");
      divided(LONGEST, a, 1, "1", a, "0");
    }
  }

  private static void ofLessThanB() {
    divided("0", "1", "0", "0");
    divided("0", "18446744073709551615", "0", "0");
    divided("6", "7", "0", "6");
    divided("9223372036854775806", "9223372036854775807", "0", "9223372036854775806");
    divided("12297829382473034410", "12297829382473034411", "0", "12297829382473034410");
  }

  private static void ofTheSame() {
    for (String a : new String[] {
        "1", "2", "3", "9223372036854775807", "9223372036854775808", "9223372036854775809",
        "18446744073709551614", "18446744073709551615"}) {
      divided(a, a, "1", "0");
    }
    NineValues x = new NineValues();
    x.number(5, LONGEST, -1L);
    x.operate(QUOTIENT, false, 5, 5, 6);
    Check.due("quotient of a place by itself", x.numberOf(6, false), 1L);
    x.operate(REMAINDER, false, 5, 5, 5);
    Check.due("remainder of a place by itself, into it", Check.read(x, 5), "0".repeat(LONGEST));
  }

  private static void inShorterWords() {
    divided(8, "255", 8, "16", "15", "15");
    divided(8, "200", 3, "7", "28", "4");
    divided(3, "7", 8, "200", "0", "7");
    divided(1, "1", 1, "1", "1", "0");
    divided(32, "4294967295", 32, "2147483648", "1", "2147483647");
    divided(63, "9223372036854775807", 63, "4611686018427387904", "1", "4611686018427387903");
    divided(63, "9223372036854775807", LONGEST, "9223372036854775808", "0", "9223372036854775807");
    divided(LONGEST, "18446744073709551615", 63, "9223372036854775807", "2", "1");
    divided(LONGEST, "18446744073709551615", 4, "15", "1229782938247303441", "0");
  }

  private static void withWeakValues() {
    NineValues x = Check.holding("H".repeat(64), "H" + "L".repeat(63));
    x.operate(QUOTIENT, false, 0, 1, 2);
    x.operate(REMAINDER, false, 0, 1, 3);
    x.operate(MODULUS, false, 0, 1, 4);
    Check.due("quotient of weak ones", Check.read(x, 2), "0".repeat(63) + "1");
    Check.due("remainder of weak ones", Check.read(x, 3), "0" + "1".repeat(63));
    Check.due("modulus of weak ones", Check.read(x, 4), "0" + "1".repeat(63));
  }

  /** Where a quotient goes up by one is where it is most easily wrong by one. */
  private static void nextToMultiples() {
    Random random = new Random(5);
    for (int i = 0; i < 2000; i++) {
      BigInteger q = new BigInteger(1 + random.nextInt(LONGEST), random).max(BigInteger.ONE);
      BigInteger multiple = new BigInteger(LONGEST, random).divide(q).multiply(q);
      for (int off = -1; off <= 1; off++) {
        BigInteger p = multiple.add(BigInteger.valueOf(off));
        if (p.signum() >= 0 && p.compareTo(END) < 0) {
          reckon(LONGEST, p, LONGEST, q);
        }
      }
    }
  }

  private static void anyNumbers() {
    Random random = new Random(6);
    for (int i = 0; i < 4000; i++) {
      int lengthOfA = i % 2 == 0 ? LONGEST : 1 + random.nextInt(LONGEST);
      int lengthOfB = i % 3 == 0 ? LONGEST : 1 + random.nextInt(LONGEST);
      BigInteger p = new BigInteger(lengthOfA, random);
      BigInteger q = new BigInteger(lengthOfB, random);
      if (q.signum() != 0) {
        reckon(lengthOfA, p, lengthOfB, q);
      }
    }
    for (int i = 0; i < 1000; i++) {
      BigInteger p = MIDDLE.add(new BigInteger(63, random));
      BigInteger q = MIDDLE.add(new BigInteger(63, random));
      reckon(LONGEST, p, LONGEST, q);
    }
  }

  private static void byZero() {
    for (long a : new long[] {0L, 1L, Long.MAX_VALUE, Long.MIN_VALUE, -1L}) {
      for (int lengthOfB : new int[] {1, 63, LONGEST}) {
        NineValues x = new NineValues();
        x.number(0, LONGEST, a);
        x.number(1, lengthOfB, 0L);
        x.fill(2, 3, 5);
        for (int operation = QUOTIENT; operation <= MODULUS; operation++) {
          int k = operation;
          Check.thrown(k + " of " + a + " by 0", ArithmeticException.class, () -> x.operate(k, false, 0, 1, 2));
        }
        Check.due("the answer's place after divisors of 0", Check.read(x, 2), "WWW");
      }
    }
  }
}
