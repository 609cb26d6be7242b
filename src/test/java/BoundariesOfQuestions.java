/** Promises 13 to 16: compare, same, all, edge. */
final class BoundariesOfQuestions {
  private static final String ONES = "1".repeat(64);
  private static final String ZEROS = "0".repeat(64);
  private static final String LEAST = "1" + "0".repeat(63);
  private static final String GREATEST = "0" + "1".repeat(63);
  private static final String NOT_CLEAR = "UXZW-";

  private BoundariesOfQuestions() {}

  static void test() {
    compare(new Section("Promise 13: compare"));
    same(new Section("Promise 14: same"));
    all(new Section("Promise 15: all"));
    edge(new Section("Promise 16: edge"));
  }

  private static void compare(Section compare) {
    compare.sentence(
        "-1, 0, 1 as a's number is below, the same as, above b's;",
        BoundariesOfQuestions::comparedUnsigned,
        BoundariesOfQuestions::comparedSigned,
        BoundariesOfQuestions::comparedOfOtherLengths);
    compare.sentence("2 when one of them is not CLEAR,", BoundariesOfQuestions::comparedNotClear);
    compare.sentence("or has length 0.", BoundariesOfQuestions::comparedNothing);
    compare.sentence("IndexOutOfBoundsException.", BoundariesOfQuestions::compareOfNoPlace);
  }

  /** Of two words, and of the same two in the other order. */
  private static void compared(boolean signed, String a, String b, int want) {
    String what = "compare" + (signed ? " signed " : " ");
    Check.due(what + a + " with " + b, Ask.compare(signed, a, b), want);
    Check.due(what + b + " with " + a, Ask.compare(signed, b, a), want == 2 ? 2 : -want);
  }

  private static void comparedUnsigned() {
    compared(false, "0", "1", -1);
    compared(false, "1", "H", 0);
    compared(false, GREATEST, LEAST, -1);
    compared(false, LEAST, ONES, -1);
    compared(false, ZEROS, ONES, -1);
    compared(false, ONES, ONES, 0);
    compared(false, LEAST, LEAST, 0);
    compared(false, "1".repeat(63) + "0", ONES, -1);
  }

  private static void comparedSigned() {
    compared(true, "1", "0", -1);
    compared(true, "1", "H", 0);
    compared(true, LEAST, GREATEST, -1);
    compared(true, LEAST, ONES, -1);
    compared(true, ONES, ZEROS, -1);
    compared(true, ONES, ONES, 0);
    compared(true, LEAST, LEAST, 0);
    compared(true, "0".repeat(63) + "1", GREATEST, -1);
  }

  private static void comparedOfOtherLengths() {
    compared(false, "1", ONES, -1);
    compared(true, "1", ONES, 0);
    compared(false, "1".repeat(63), GREATEST, 0);
    compared(true, "1".repeat(63), GREATEST, -1);
    compared(false, "0", ZEROS, 0);
    compared(true, "0", ZEROS, 0);
    compared(true, "1", LEAST, 1);
    compared(false, "1", LEAST, -1);
  }

  private static void comparedNotClear() {
    for (char value : NOT_CLEAR.toCharArray()) {
      for (boolean signed : new boolean[] {false, true}) {
        compared(signed, "" + value, "0", 2);
        compared(signed, "" + value, "1", 2);
        compared(signed, "" + value, "" + value, 2);
        compared(signed, value + "0", "01", 2);
        compared(signed, "0" + value, "10", 2);
        compared(signed, value + ONES.substring(1), ONES, 2);
      }
    }
  }

  private static void comparedNothing() {
    for (boolean signed : new boolean[] {false, true}) {
      compared(signed, "", "", 2);
      compared(signed, "", "0", 2);
      compared(signed, "", "1", 2);
      compared(signed, "", "Z", 2);
      compared(signed, "", ZEROS, 2);
      compared(signed, "", ONES, 2);
    }
    Check.due("with itself", Check.holding("").compare(false, 0, 0), 2);
  }

  private static void compareOfNoPlace() {
    for (int place : Check.NO_PLACES) {
      for (boolean signed : new boolean[] {false, true}) {
        for (int other : new int[] {0, 1, 2}) {
          Check.refused("a " + place, IndexOutOfBoundsException.class, x -> x.compare(signed, place, other), "0", "Z");
          Check.refused("b " + place, IndexOutOfBoundsException.class, x -> x.compare(signed, other, place), "0", "Z");
        }
      }
      Check.refused("both " + place, IndexOutOfBoundsException.class, x -> x.compare(false, place, place), "0");
    }
  }

  private static void same(Section same) {
    same.sentence(
        "Whether two words have the same length",
        BoundariesOfQuestions::sameLengths,
        BoundariesOfQuestions::sameLengthsMatched);
    same.sentence(
        "and the same elements;", BoundariesOfQuestions::sameElements, BoundariesOfQuestions::elementsThatWere);
    same.sentence("as matched: FREE goes with any,", () -> matched("-", Check.LETTERS, true));
    same.sentence("U, X, Z, W with none (but FREE),", BoundariesOfQuestions::matchedWithNone);
    same.sentence("LOW with LOW,", BoundariesOfQuestions::matchedLow);
    same.sentence("HIGH with HIGH.", BoundariesOfQuestions::matchedHigh);
    same.sentence("IndexOutOfBoundsException.", BoundariesOfQuestions::sameOfNoPlace);
  }

  private static void isSame(boolean matched, String a, String b, boolean want) {
    String what = "same" + (matched ? " as matched " : " ");
    Check.due(what + a + " with " + b, Ask.same(matched, a, b), want);
    Check.due(what + b + " with " + a, Ask.same(matched, b, a), want);
  }

  private static void sameLengths() {
    isSame(false, "", "", true);
    isSame(false, "", "0", false);
    isSame(false, "0", "00", false);
    isSame(false, ZEROS, ZEROS, true);
    isSame(false, ZEROS, ZEROS.substring(1), false);
    isSame(false, "", ZEROS, false);
  }

  private static void sameLengthsMatched() {
    isSame(true, "", "", true);
    isSame(true, "", "-", false);
    isSame(true, "-", "--", false);
    isSame(true, "-".repeat(64), ONES, true);
    isSame(true, "-".repeat(64), ONES.substring(1), false);
  }

  private static void sameElements() {
    for (char p : Check.LETTERS.toCharArray()) {
      for (char q : Check.LETTERS.toCharArray()) {
        isSame(false, "" + p, "" + q, p == q);
      }
    }
    isSame(false, "1" + ZEROS.substring(1), ZEROS, false);
    isSame(false, ZEROS.substring(1) + "1", ZEROS, false);
    isSame(true, "1" + ZEROS.substring(1), ZEROS, false);
    isSame(true, ZEROS.substring(1) + "1", ZEROS, false);
  }

  private static void elementsThatWere() {
    NineValues x = Check.holding("UUU", "ZZZ");
    x.fill(0, 1, 3);
    x.fill(1, 1, 3);
    Check.due("what longer words held before", x.same(false, 0, 1), true);
    Check.due("what longer words held before, as matched", x.same(true, 0, 1), true);
  }

  private static void matched(String some, String others, boolean want) {
    for (char p : some.toCharArray()) {
      for (char q : others.toCharArray()) {
        isSame(true, "" + p, "" + q, want);
      }
    }
  }

  private static void matchedWithNone() {
    matched("UXZW", "UX01ZWLH", false);
    matched("UXZW", "-", true);
    Check.due("a word with itself", Check.holding("0Z").same(true, 0, 0), false);
    isSame(true, "UXZW", "----", true);
    isSame(true, "Z" + ONES.substring(1), "Z" + ONES.substring(1), false);
  }

  private static void matchedLow() {
    matched("0L", "0L", true);
    matched("0L", "1HUXZW", false);
  }

  private static void matchedHigh() {
    matched("1H", "1H", true);
    matched("1H", "0LUXZW", false);
  }

  private static void sameOfNoPlace() {
    for (int place : Check.NO_PLACES) {
      for (boolean matched : new boolean[] {false, true}) {
        for (int other : new int[] {0, 1, 2}) {
          Check.refused("a " + place, IndexOutOfBoundsException.class, x -> x.same(matched, place, other), "0", "Z");
          Check.refused("b " + place, IndexOutOfBoundsException.class, x -> x.same(matched, other, place), "0", "Z");
        }
      }
      Check.refused("both " + place, IndexOutOfBoundsException.class, x -> x.same(false, place, place), "0");
    }
  }

  private static void all(Section all) {
    all.sentence(
        "All elements of a word: kind 0 joined by AND from ONE on,",
        () -> ofNoneAndOne(0, '1', "UX01XX01X"),
        BoundariesOfQuestions::allByAnd);
    all.sentence(
        "1 by OR from ZERO on,", () -> ofNoneAndOne(1, '0', "UX01XX01X"), BoundariesOfQuestions::allByOr);
    all.sentence(
        "2 by XOR from ZERO on,", () -> ofNoneAndOne(2, '0', "UX01XX01X"), BoundariesOfQuestions::allByXor);
    all.sentence(
        "3 DRIVEN TOGETHER from Z on;", () -> ofNoneAndOne(3, 'Z', "UX01ZWLHX"), BoundariesOfQuestions::allTogether);
    all.sentence("from the right to the left.", BoundariesOfQuestions::everyElementCounts);
    all.sentence("IndexOutOfBoundsException;", BoundariesOfQuestions::allOfNoPlace);
    all.sentence("IllegalArgumentException when there is no such kind.", BoundariesOfQuestions::allOfNoKind);
  }

  private static void joined(int kind, String a, char want) {
    Check.due("all " + kind + " of " + a, Ask.all(kind, a), want);
  }

  /** Of the empty word, and of words of one element, in the order of Check.LETTERS. */
  private static void ofNoneAndOne(int kind, char ofNone, String ofOne) {
    joined(kind, "", ofNone);
    for (int value = 0; value <= 8; value++) {
      joined(kind, Check.LETTERS.substring(value, value + 1), ofOne.charAt(value));
    }
  }

  private static void allByAnd() {
    joined(0, "1H".repeat(32), '1');
    joined(0, "U1", 'U');
    joined(0, "U0", '0');
    joined(0, "0U", '0');
    joined(0, "XU", 'U');
    joined(0, "UX", 'U');
  }

  private static void allByOr() {
    joined(1, "0L".repeat(32), '0');
    joined(1, "U0", 'U');
    joined(1, "U1", '1');
    joined(1, "1U", '1');
    joined(1, "XU", 'U');
    joined(1, "UX", 'U');
  }

  private static void allByXor() {
    joined(2, ONES, '0');
    joined(2, ONES.substring(1), '1');
    joined(2, "H".repeat(63) + "L", '1');
    joined(2, "U1", 'U');
    joined(2, "X1", 'X');
    joined(2, "XU", 'U');
    joined(2, "UX", 'U');
  }

  private static void allTogether() {
    joined(3, "Z".repeat(64), 'Z');
    joined(3, "01", 'X');
    joined(3, "LH", 'W');
    joined(3, "0LH", '0');
    joined(3, "LH1", '1');
    joined(3, "U-", 'U');
    joined(3, "-U", 'U');
    joined(3, "L".repeat(64), 'L');
  }

  /** At the right end, at the left end and between: one element of 64 is another one than all others. */
  private static void everyElementCounts() {
    for (int k = 0; k < 64; k++) {
      joined(0, ONES.substring(k + 1) + "0" + ONES.substring(64 - k), '0');
      joined(1, ZEROS.substring(k + 1) + "1" + ZEROS.substring(64 - k), '1');
      joined(2, ZEROS.substring(k + 1) + "H" + ZEROS.substring(64 - k), '1');
      joined(3, "Z".repeat(63 - k) + "H" + "Z".repeat(k), 'H');
    }
  }

  private static void allOfNoPlace() {
    for (int place : Check.NO_PLACES) {
      for (int kind = 0; kind <= 3; kind++) {
        int k = kind;
        Check.refused("all " + k + " of " + place, IndexOutOfBoundsException.class, x -> x.all(k, place), "01");
      }
    }
  }

  private static void allOfNoKind() {
    for (int kind : new int[] {-1, 4, 5, Integer.MIN_VALUE, Integer.MAX_VALUE}) {
      Check.refused("kind " + kind, IllegalArgumentException.class, x -> x.all(kind, 0), "01");
      Check.refused("kind " + kind + " of nothing", IllegalArgumentException.class, x -> x.all(kind, 0), "");
    }
  }

  private static void edge(Section edge) {
    edge.sentence(
        "What an edge from one value to another one is: 1 rising (LOW, then HIGH),", () -> edges("0L", "1H", 1));
    edge.sentence("-1 falling (HIGH, then LOW),", () -> edges("1H", "0L", -1));
    edge.sentence("0 none.", BoundariesOfQuestions::noEdges);
    edge.sentence("IllegalArgumentException when one is no value.", BoundariesOfQuestions::edgeOfNoValue);
  }

  private static void edges(String before, String now, int want) {
    for (char p : before.toCharArray()) {
      for (char q : now.toCharArray()) {
        Check.due("edge from " + p + " to " + q, Ask.edge(p, q), want);
      }
    }
  }

  private static void noEdges() {
    edges("0L", "0L", 0);
    edges("1H", "1H", 0);
    edges(NOT_CLEAR, Check.LETTERS, 0);
    edges(Check.LETTERS, NOT_CLEAR, 0);
  }

  private static void edgeOfNoValue() {
    for (int value : Check.NO_VALUES) {
      for (int other = 0; other <= 8; other++) {
        int k = other;
        Check.refused("from " + value, IllegalArgumentException.class, x -> x.edge(value, k), "01");
        Check.refused("to " + value, IllegalArgumentException.class, x -> x.edge(k, value), "01");
      }
      Check.refused("both " + value, IllegalArgumentException.class, x -> x.edge(value, value), "01");
    }
  }
}
