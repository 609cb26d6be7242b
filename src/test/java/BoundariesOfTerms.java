import java.util.List;
import java.util.function.Consumer;

/** The terms that tell of words, places, and calls that throw; and how many calls an object serves. */
final class BoundariesOfTerms {
  private static final String ONES = "1".repeat(64);
  private static final String LEAST = "1" + "0".repeat(63);

  private BoundariesOfTerms() {}

  static void test() {
    new Section("What it is").sentence(
        "An object is used for at most 512 calls after it has been made;",
        BoundariesOfTerms::lastCall,
        BoundariesOfTerms::lastCallAfterRefusedOnes);
    Section terms = new Section("Terms");
    words(terms);
    numbers(terms);
    terms.sentence(
        "A word BROUGHT to a length n loses elements from the left, or gets more there: ZERO, signed the same as its "
            + "last one (ZERO for length 0).",
        BoundariesOfTerms::broughtShorter,
        BoundariesOfTerms::broughtLonger,
        BoundariesOfTerms::broughtFromNothing);
    terms.sentence(
        "SIXTEEN PLACES, 0 .. 15, hold words.", BoundariesOfTerms::everyPlace, BoundariesOfTerms::noPlace);
    terms.sentence(
        "A call that throws changes nothing;",
        BoundariesOfTerms::outOfBoundsChangesNothing,
        BoundariesOfTerms::illegalArgumentChangesNothing,
        BoundariesOfTerms::othersChangeNothing);
    terms.sentence(
        "where several exceptions that a call names fit, the one named first is thrown.",
        BoundariesOfTerms::theOneNamedFirst);
    terms.sentence(
        "IndexOutOfBoundsException: there is no such place (or element).",
        BoundariesOfTerms::noPlace,
        BoundariesOfTerms::noElement);
  }

  private static void lastCall() {
    NineValues x = new NineValues();
    x.number(0, 16, 0);
    x.number(1, 16, 1);
    for (int call = 3; call <= 511; call++) {
      x.operate(7, false, 0, 1, 0);
    }
    Check.due("numberOf as call 512", x.numberOf(0, false), 509L);
  }

  private static void lastCallAfterRefusedOnes() {
    NineValues x = new NineValues();
    x.fill(3, 64, 7);
    int refused = 0;
    for (int call = 2; call <= 511; call++) {
      try {
        x.fill(3, 65, 7);
      } catch (IllegalArgumentException e) {
        refused++;
      }
    }
    Check.due("numberOf as call 512", x.numberOf(3, false), -1L);
    Check.due("refused calls", refused, 510);
  }

  private static void words(Section terms) {
    terms.sentence(
        "WORDS have a length of 0 .. 64;",
        BoundariesOfTerms::shortestAndLongest,
        BoundariesOfTerms::noLength,
        BoundariesOfTerms::tooLong);
    terms.sentence("element k, from 0 on, is the k-th from the right, its WEIGHT 2^k.", BoundariesOfTerms::weights);
    terms.sentence("A word is CLEAR when all its elements are;", BoundariesOfTerms::oneElementNotClear);
  }

  private static void shortestAndLongest() {
    for (int n : new int[] {0, 64}) {
      Check.due("filled to " + n, Ask.fill(n, 3), "1".repeat(n));
      Check.due("a number in " + n, Ask.number(n, -1), "1".repeat(n));
      Check.due("brought to " + n, Ask.bring(true, n, "1"), "1".repeat(n));
      Check.due("cut to " + n, Ask.cut(0, n, ONES), "1".repeat(n));
      Check.due("behind " + n, Ask.operate(13, false, "1".repeat(n), ""), "1".repeat(n));
      Check.due("the same of " + n, Ask.operate(1, false, "1".repeat(n), "1".repeat(n)), "1".repeat(n));
    }
    Check.due("a product of 64", Ask.operate(9, false, "1".repeat(32), "1".repeat(32)), bits(0xFFFFFFFE00000001L));
  }

  private static String bits(long v) {
    return "0".repeat(Long.numberOfLeadingZeros(v)) + Long.toBinaryString(v);
  }

  private static void noLength() {
    for (int n : Check.NO_LENGTHS) {
      Check.refused("filled to " + n, IllegalArgumentException.class, x -> x.fill(0, n, 1), "01");
      Check.refused("a number in " + n, IllegalArgumentException.class, x -> x.number(0, n, 1), "01");
      Check.refused("brought to " + n, IllegalArgumentException.class, x -> x.bring(false, n, 0, 1), "01");
    }
  }

  private static void tooLong() {
    for (int operation : new int[] {9, 13}) {
      Check.refused(
          "operation " + operation + " of 64 and 1",
          IllegalArgumentException.class, x -> x.operate(operation, false, 0, 1, 2), ONES, "1");
    }
  }

  private static void weights() {
    for (int k = 0; k < 64; k++) {
      String word = "0".repeat(63 - k) + "1" + "0".repeat(k);
      Check.due("the number of one ONE at " + k, Ask.numberOf(false, word), 1L << k);
      NineValues x = Check.holding(word);
      Check.due("the element at " + k, x.get(0, k), 3);
      Check.due("the element at 0", x.get(0, 0), k == 0 ? 3 : 2);
      Check.due("the element at 63", x.get(0, 63), k == 63 ? 3 : 2);
    }
  }

  /** At the right end, in the middle, and at the left end of a word, and alone. */
  private static void oneElementNotClear() {
    for (char value : "UXZW-".toCharArray()) {
      String longest = value + ONES.substring(1);
      for (String word : List.of("01" + value, "0" + value + "1", value + "01", "" + value, longest)) {
        Check.refused("numberOf " + word, IllegalStateException.class, x -> x.numberOf(0, false), word);
        Check.refused("numberOf signed " + word, IllegalStateException.class, x -> x.numberOf(0, true), word);
      }
    }
  }

  private static void numbers(Section terms) {
    terms.sentence(
        "then its NUMBER is the sum of the weights of those that are HIGH;",
        () -> Check.due("none", Ask.numberOf(false, "L0".repeat(32)), 0L),
        () -> Check.due("all", Ask.numberOf(false, "H1".repeat(32)), -1L),
        () -> Check.due("some", Ask.numberOf(false, "HL01"), 9L));
    terms.sentence(
        "SIGNED, the last element's weight (of length n: 2^(n - 1)) counts as less than 0.",
        BoundariesOfTerms::leastAndGreatestSigned);
    terms.sentence(
        "A word of length 0 has the number 0.",
        () -> Check.due("not signed", Ask.numberOf(false, ""), 0L),
        () -> Check.due("signed", Ask.numberOf(true, ""), 0L));
    terms.sentence(
        "A NUMBER PUT INTO a length keeps its lowest bits: ZERO and ONE.",
        BoundariesOfTerms::wrapsRoundInto,
        BoundariesOfTerms::putIntoIsStrong);
  }

  private static void leastAndGreatestSigned() {
    for (int n = 1; n <= 64; n++) {
      String rest = "0".repeat(n - 1);
      String ones = "1".repeat(n - 1);
      Check.due("the least of " + n, Ask.numberOf(true, "1" + rest), -1L << n - 1);
      Check.due("the greatest of " + n, Ask.numberOf(true, "0" + ones), ~(-1L << n - 1));
      Check.due("all ONE of " + n, Ask.numberOf(true, "1" + ones), -1L);
      Check.due("all ZERO of " + n, Ask.numberOf(true, "0" + rest), 0L);
    }
  }

  private static void wrapsRoundInto() {
    Check.due("no bit", Ask.number(0, -1), "");
    for (int n = 1; n <= 63; n++) {
      Check.due("2^" + n + " in " + n, Ask.number(n, 1L << n), "0".repeat(n));
      Check.due("2^" + n + " - 1 in " + n, Ask.number(n, (1L << n) - 1), "1".repeat(n));
      Check.due("-1 in " + n, Ask.number(n, -1), "1".repeat(n));
      Check.due("-2^" + n + " - 1 in " + n, Ask.number(n, (-1L << n) - 1), "1".repeat(n));
    }
    Check.due("the least long in 64", Ask.number(64, Long.MIN_VALUE), LEAST);
    Check.due("the greatest long in 64", Ask.number(64, Long.MAX_VALUE), "0" + ONES.substring(1));
    Check.due("the least long in 63", Ask.number(63, Long.MIN_VALUE), "0".repeat(63));
  }

  private static void putIntoIsStrong() {
    Check.due("a sum of weak ones", Ask.operate(7, false, "LH", "HL"), "11");
    Check.due("the other sign of weak ones", Ask.change(5, "LH"), "11");
    Check.due("the size of weak ones", Ask.change(6, "LH"), "01");
  }

  private static void broughtShorter() {
    Check.due("all lost", Ask.bring(true, 0, "UX01Z"), "");
    Check.due("all but one lost", Ask.bring(true, 1, "UX01Z"), "Z");
    Check.due("one lost", Ask.bring(false, 4, "UX01Z"), "X01Z");
    Check.due("none lost", Ask.bring(false, 5, "UX01Z"), "UX01Z");
    Check.due("64 to 63", Ask.bring(true, 63, LEAST), "0".repeat(63));
  }

  private static void broughtLonger() {
    for (char last : Check.LETTERS.toCharArray()) {
      Check.due("one more", Ask.bring(false, 3, last + "1"), "0" + last + "1");
      Check.due("one more, signed", Ask.bring(true, 3, last + "1"), "" + last + last + "1");
      Check.due("to 64", Ask.bring(false, 64, "" + last), "0".repeat(63) + last);
      Check.due("to 64, signed", Ask.bring(true, 64, "" + last), ("" + last).repeat(64));
    }
  }

  private static void broughtFromNothing() {
    for (int n : new int[] {0, 1, 63, 64}) {
      Check.due("nothing to " + n, Ask.bring(false, n, ""), "0".repeat(n));
      Check.due("nothing to " + n + ", signed", Ask.bring(true, n, ""), "0".repeat(n));
    }
  }

  private static void everyPlace() {
    NineValues x = new NineValues();
    for (int place = 0; place <= 15; place++) {
      x.number(place, 5, place);
    }
    for (int place = 0; place <= 15; place++) {
      Check.due("the word of place " + place, x.numberOf(place, false), (long) place);
    }
  }

  private static void noPlace() {
    for (int place : Check.NO_PLACES) {
      for (Consumer<NineValues> call : callsOf(place)) {
        Check.refused("a call of place " + place, IndexOutOfBoundsException.class, call, "01", "01", "01");
      }
    }
  }

  /** Every call of the face that names a place, and in every argument that is one. */
  private static List<Consumer<NineValues>> callsOf(int place) {
    return List.of(
        x -> x.fill(place, 1, 1), x -> x.put(place, 0, 1), x -> x.get(place, 0), x -> x.length(place),
        x -> x.number(place, 1, 1), x -> x.numberOf(place, false),
        x -> x.operate(7, false, place, 1, 2), x -> x.operate(7, false, 0, place, 2),
        x -> x.operate(7, false, 0, 1, place),
        x -> x.change(0, place, 2), x -> x.change(0, 0, place),
        x -> x.shift(0, 1, 1, place, 2), x -> x.shift(0, 1, 1, 0, place),
        x -> x.bring(false, 1, place, 2), x -> x.bring(false, 1, 0, place),
        x -> x.cut(0, 1, place, 2), x -> x.cut(0, 1, 0, place),
        x -> x.compare(false, place, 1), x -> x.compare(false, 0, place),
        x -> x.same(false, place, 1), x -> x.same(false, 0, place),
        x -> x.all(0, place));
  }

  private static void noElement() {
    for (int k : new int[] {-1, 2, 63, 64, Integer.MIN_VALUE, Integer.MAX_VALUE}) {
      Check.refused("put of " + k, IndexOutOfBoundsException.class, x -> x.put(0, k, 1), "01");
      Check.refused("get of " + k, IndexOutOfBoundsException.class, x -> x.get(0, k), "01");
    }
    Check.refused("put into nothing", IndexOutOfBoundsException.class, x -> x.put(1, 0, 1), "01");
    Check.refused("get of nothing", IndexOutOfBoundsException.class, x -> x.get(1, 0), "01");
    Check.refused("put of 64 of 64", IndexOutOfBoundsException.class, x -> x.put(0, 64, 1), ONES);
    Check.refused("get of 64 of 64", IndexOutOfBoundsException.class, x -> x.get(0, 64), ONES);
  }

  /** Sixteen words, no two the same, so that no place can change unseen. */
  private static String[] sixteen() {
    String[] words = new String[16];
    for (int place = 0; place < 16; place++) {
      words[place] = Check.LETTERS.substring(place % 8, place % 8 + 2) + (place < 8 ? "0" : "");
    }
    return words;
  }

  private static void changesNothing(Class<? extends RuntimeException> want, List<Consumer<NineValues>> calls) {
    for (int i = 0; i < calls.size(); i++) {
      Check.refused("call " + i + " of the list", want, calls.get(i), sixteen());
    }
  }

  private static void outOfBoundsChangesNothing() {
    changesNothing(IndexOutOfBoundsException.class, callsOf(-1));
    changesNothing(IndexOutOfBoundsException.class, callsOf(16));
    changesNothing(IndexOutOfBoundsException.class, List.of(
        x -> x.put(0, 3, 1), x -> x.get(0, 3),
        x -> x.cut(0, 4, 0, 1), x -> x.cut(4, 0, 0, 1), x -> x.cut(0, -1, 0, 1)));
  }

  private static void illegalArgumentChangesNothing() {
    changesNothing(IllegalArgumentException.class, List.of(
        x -> x.fill(0, 65, 1), x -> x.fill(0, -1, 1), x -> x.fill(0, 2, 9), x -> x.put(0, 0, 9),
        x -> x.number(0, 65, 1), x -> x.number(0, -1, 1),
        x -> x.operate(14, false, 0, 1, 2), x -> x.operate(-1, false, 0, 1, 2), x -> x.operate(0, false, 0, 8, 2),
        x -> x.change(7, 0, 1), x -> x.change(-1, 0, 1),
        x -> x.shift(5, 1, 1, 0, 1), x -> x.shift(0, 1, 9, 0, 1), x -> x.shift(0, 1001, 1, 0, 1),
        x -> x.bring(false, 65, 0, 1), x -> x.bring(true, -1, 0, 1),
        x -> x.all(4, 0), x -> x.edge(9, 0)));
    for (int operation : new int[] {9, 13}) {
      Check.refused(
          "operation " + operation, IllegalArgumentException.class,
          x -> x.operate(operation, false, 0, 1, 2), "0".repeat(33), "1".repeat(32), "ZWZ");
    }
  }

  private static void othersChangeNothing() {
    changesNothing(IllegalStateException.class, List.of(x -> x.numberOf(0, false), x -> x.numberOf(0, true)));
    for (int operation = 10; operation <= 12; operation++) {
      int k = operation;
      Check.refused(
          "operation " + k, ArithmeticException.class, x -> x.operate(k, false, 0, 1, 2), "01", "00", "ZWZ");
      Check.refused(
          "operation " + k + " into a", ArithmeticException.class, x -> x.operate(k, true, 0, 1, 0), "01", "00");
      Check.refused(
          "operation " + k + " into b", ArithmeticException.class, x -> x.operate(k, true, 0, 1, 1), "01", "00");
    }
  }

  private static void theOneNamedFirst() {
    for (int place : new int[] {-1, 16}) {
      changesNothing(IndexOutOfBoundsException.class, List.of(
          x -> x.fill(place, 65, 9), x -> x.put(place, 0, 9), x -> x.number(place, -1, 1),
          x -> x.operate(14, false, place, 1, 2), x -> x.operate(14, false, 0, place, 2),
          x -> x.operate(14, false, 0, 1, place), x -> x.operate(0, false, 0, 8, place),
          x -> x.change(7, place, 1), x -> x.change(7, 0, place),
          x -> x.shift(5, 1001, 9, place, 1), x -> x.shift(5, 1001, 9, 0, place),
          x -> x.bring(false, 65, place, 1), x -> x.bring(false, 65, 0, place),
          x -> x.all(4, place)));
      Check.refused(
          "a quotient by 0 into place " + place, IndexOutOfBoundsException.class,
          x -> x.operate(10, false, 0, 1, place), "01", "00");
    }
    changesNothing(IndexOutOfBoundsException.class, List.of(x -> x.put(0, 3, 9), x -> x.put(0, -1, -1)));
    Check.refused(
        "no operation of a word and one whose number is 0", IllegalArgumentException.class,
        x -> x.operate(14, false, 0, 1, 2), "01", "00");
  }
}
