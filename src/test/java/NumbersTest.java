/** Promises 6 and 7: number, numberOf. */
public final class NumbersTest {
  private static final long[] SOME = {
    0, 1, -1, 2, -2, 5, 127, 128, -128, -129, 255, 256, 0x123456789ABCDEFL, 0xFEDCBA9876543210L,
    Long.MAX_VALUE, Long.MIN_VALUE, Long.MIN_VALUE + 1
  };

  public static void main(String[] args) {
    number();
    numberRefuses();
    numberOfKnownWords();
    numberOfEveryLength();
    numberOfRefuses();
    Check.end();
  }

  private static void number() {
    for (int n = 0; n <= 64; n++) {
      for (long v : SOME) {
        String bits = "0".repeat(Long.numberOfLeadingZeros(v)) + (v == 0 ? "" : Long.toBinaryString(v));
        NineValues x = Check.holding("ZZZ");
        x.number(0, n, v);
        Check.holds("number " + v + " into " + n, x, bits.substring(64 - n), "");
      }
    }
  }

  private static void numberRefuses() {
    NineValues x = Check.holding("01ZX");
    for (int place : Check.NO_PLACES) {
      Check.outOfBounds("number into place " + place, () -> x.number(place, 8, 1));
      Check.outOfBounds("number into place " + place + ", first named", () -> x.number(place, 65, 1));
    }
    for (int n : Check.NO_LENGTHS) {
      Check.illegalArgument("number into length " + n, () -> x.number(0, n, 1));
    }
    Check.holds("after numbers that threw", x, "01ZX");
  }

  private static void numberOf(String word, long unsigned, long signed) {
    NineValues x = Check.holding(word);
    Check.due("numberOf " + word, x.numberOf(0, false), unsigned);
    Check.due("numberOf signed " + word, x.numberOf(0, true), signed);
    Check.holds("numberOf leaves the word", x, word);
  }

  private static void numberOfKnownWords() {
    numberOf("", 0, 0);
    numberOf("0", 0, 0);
    numberOf("1", 1, -1);
    numberOf("H", 1, -1);
    numberOf("L", 0, 0);
    numberOf("0H1L", 6, 6);
    numberOf("HL01", 9, -7);
    numberOf("1" + "0".repeat(63), Long.MIN_VALUE, Long.MIN_VALUE);
    numberOf("H".repeat(64), -1, -1);
    numberOf("L" + "H".repeat(63), Long.MAX_VALUE, Long.MAX_VALUE);
    numberOf("1".repeat(63), Long.MAX_VALUE, -1);
    numberOf("1".repeat(32), 0xFFFFFFFFL, -1);
  }

  private static void numberOfEveryLength() {
    for (int n = 1; n <= 64; n++) {
      for (long v : SOME) {
        NineValues x = new NineValues();
        x.number(5, n, v);
        int above = 64 - n;
        Check.due("numberOf " + v + " in " + n, x.numberOf(5, false), v << above >>> above);
        Check.due("numberOf signed " + v + " in " + n, x.numberOf(5, true), v << above >> above);
      }
    }
  }

  private static void numberOfRefuses() {
    NineValues x = Check.holding("01Z1");
    for (int place : Check.NO_PLACES) {
      Check.outOfBounds("numberOf place " + place, () -> x.numberOf(place, false));
    }
    for (int value : new int[] {0, 1, 4, 5, 8}) {
      for (int k = 0; k < 4; k++) {
        NineValues y = Check.holding("01H1");
        y.put(0, k, value);
        String what = "numberOf with " + value + " at " + k;
        Check.thrown(what, IllegalStateException.class, () -> y.numberOf(0, false));
        Check.thrown(what + ", signed", IllegalStateException.class, () -> y.numberOf(0, true));
      }
    }
    x.fill(0, 64, 1);
    x.fill(0, 2, 3);
    Check.due("elements behind the word do not count", x.numberOf(0, false), 3L);
  }
}
