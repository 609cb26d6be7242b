/** The operations among the terms, and promise 8: operate. */
final class BoundariesOfOperate {
  private static final String ONES = "1".repeat(64);
  private static final String ZEROS = "0".repeat(64);
  private static final String LEAST = "1" + "0".repeat(63);
  private static final String GREATEST = "0" + "1".repeat(63);
  private static final boolean[] BOTH = {false, true};

  private BoundariesOfOperate() {}

  static void test() {
    terms(new Section("Terms"));
    promise(new Section("Promise 8: operate"));
  }

  private static void terms(Section terms) {
    terms.sentence("OPERATIONS of places a and b into another one.", BoundariesOfOperate::intoPlaces);
    terms.sentence(
        "Where it is said that numbers count, and one of both is not CLEAR",
        BoundariesOfOperate::numbersDoNotCount,
        BoundariesOfOperate::notClearByZero,
        BoundariesOfOperate::notClearAndLongest);
    terms.sentence("(or has length 0: then the answer has length 0),", BoundariesOfOperate::numbersOfNothing);
    terms.sentence("all elements of the answer are X.", BoundariesOfOperate::lengthsOfUnknownAnswers);
    terms.sentence(
        "0 DRIVEN TOGETHER, 1 AND, 2 OR, 3 XOR, 4 AND turned by NOT, 5 OR turned by NOT, 6 XOR turned by NOT: "
            + "element by element; the words have the same length.",
        BoundariesOfOperate::elementsOfNothing,
        BoundariesOfOperate::elementsOfLongest);
    numbers(terms);
    terms.sentence("13 b behind a: a's elements are the left ones.", BoundariesOfOperate::behind);
  }

  private static void numbers(Section terms) {
    terms.sentence("7 the sum,", BoundariesOfOperate::sums);
    terms.sentence("8 the difference,", BoundariesOfOperate::differences);
    terms.sentence("9 the product,", BoundariesOfOperate::products);
    terms.sentence(
        "10 the quotient (towards 0),", BoundariesOfOperate::quotients, BoundariesOfOperate::unsignedQuotients);
    terms.sentence("11 the remainder (with the sign of a),", BoundariesOfOperate::remainders);
    terms.sentence("12 the modulus (with the sign of b)", BoundariesOfOperate::moduli);
    terms.sentence("of their numbers, signed or not:", BoundariesOfOperate::signedOrNot);
    terms.sentence("sum, difference: put into the greater length,", BoundariesOfOperate::sumsOfOtherLengths);
    terms.sentence("product: into the sum of both lengths;", BoundariesOfOperate::productsOfOtherLengths);
    terms.sentence("quotient into the length of a;", BoundariesOfOperate::quotientsOfOtherLengths);
    terms.sentence("remainder and modulus into that of b.", BoundariesOfOperate::remaindersOfOtherLengths);
    terms.sentence("(Of the quotient of the least number by -1 the lowest bits.)", BoundariesOfOperate::leastByMinus1);
    terms.sentence("Numbers count.", BoundariesOfOperate::weakNumbersCount);
  }

  private static void due(int operation, boolean signed, String a, String b, String want) {
    String what = "operation " + operation + (signed ? " signed" : "") + " of " + a + " and " + b;
    Check.due(what, Ask.operate(operation, signed, a, b), want);
  }

  /** "Another one" is plainly any place but a and b; no exception is named for these, so they serve as well. */
  private static void intoPlaces() {
    NineValues x = Check.holding("0011", "0101");
    for (int to : new int[] {2, 15}) {
      x.operate(1, false, 0, 1, to);
      Check.due("into " + to, Check.read(x, to), "0001");
      Check.holds("into " + to, x, "0011", "0101");
    }
    x.operate(8, false, 0, 1, 0);
    Check.holds("into a", x, "1110", "0101");
    x.operate(8, false, 0, 1, 1);
    Check.holds("into b", x, "1110", "1001");
    x.operate(13, false, 1, 1, 1);
    Check.holds("into both", x, "1110", "10011001");
  }

  private static void numbersDoNotCount() {
    for (char value : "UXZW-".toCharArray()) {
      for (boolean signed : BOTH) {
        for (int operation = 7; operation <= 12; operation++) {
          String want = operation == 9 ? "XXXX" : "XX";
          due(operation, signed, value + "1", "01", want);
          due(operation, signed, "1" + value, "01", want);
          due(operation, signed, "01", value + "1", want);
          due(operation, signed, "01", "1" + value, want);
          due(operation, signed, "" + value + value, "" + value + value, want);
        }
      }
    }
  }

  private static void notClearByZero() {
    for (boolean signed : BOTH) {
      for (int operation = 10; operation <= 12; operation++) {
        due(operation, signed, "1Z", "00", "XX");
        due(operation, signed, "01", "0Z", "XX");
      }
    }
  }

  private static void notClearAndLongest() {
    String z = "Z" + ONES.substring(1);
    for (int operation : new int[] {7, 8, 10, 11, 12}) {
      due(operation, false, z, ONES, "X".repeat(64));
      due(operation, true, ONES, z, "X".repeat(64));
    }
    due(9, false, "Z".repeat(63), "1", "X".repeat(64));
  }

  private static void numbersOfNothing() {
    for (boolean signed : BOTH) {
      for (int operation = 7; operation <= 12; operation++) {
        due(operation, signed, "", "", "");
        for (String other : new String[] {"0", "1", "Z", "101", "000", "1Z1", ONES, LEAST, "X".repeat(64)}) {
          due(operation, signed, "", other, "");
          due(operation, signed, other, "", "");
        }
      }
    }
  }

  /** As long as the answer would be if numbers counted. */
  private static void lengthsOfUnknownAnswers() {
    int[] lengths = {5, 5, 7, 2, 5, 5};
    int[] turned = {5, 5, 7, 5, 2, 2};
    for (int operation = 7; operation <= 12; operation++) {
      due(operation, false, "1W", "00101", "X".repeat(lengths[operation - 7]));
      due(operation, true, "00101", "1W", "X".repeat(turned[operation - 7]));
    }
  }

  private static void elementsOfNothing() {
    for (int operation = 0; operation <= 6; operation++) {
      due(operation, false, "", "", "");
      due(operation, true, "", "", "");
    }
  }

  private static void elementsOfLongest() {
    due(0, false, longest("0Z1"), longest("ZH0"), longest("0HX"));
    due(1, false, longest("0L1"), longest("01H"), longest("001"));
    due(2, false, longest("0LH"), longest("L11"), longest("011"));
    due(3, false, longest("0H1"), longest("L0H"), longest("010"));
    due(4, false, longest("0L1"), longest("01H"), longest("110"));
    due(5, false, longest("LL1"), longest("LHH"), longest("100"));
    due(6, false, longest("0H1"), longest("LLH"), longest("101"));
  }

  /** Of three elements 64, by repeating the middle one. */
  private static String longest(String three) {
    return three.charAt(0) + three.substring(1, 2).repeat(62) + three.charAt(2);
  }

  private static void behind() {
    due(13, false, "", "", "");
    due(13, false, "UX", "", "UX");
    due(13, true, "", "UX", "UX");
    due(13, true, "UX", "01Z", "UX01Z");
    due(13, false, "Z", GREATEST.substring(1), "Z" + "1".repeat(63));
    due(13, false, "1".repeat(63), "Z", "1".repeat(63) + "Z");
    due(13, false, "W".repeat(64), "", "W".repeat(64));
    due(13, false, "", "W".repeat(64), "W".repeat(64));
  }

  private static void sums() {
    due(7, false, ONES, "1", ZEROS);
    due(7, false, ONES, ONES, "1".repeat(63) + "0");
    due(7, true, GREATEST, "01", LEAST);
    due(7, true, LEAST, "1", GREATEST);
    due(7, false, "1", "1", "0");
    due(7, true, "1", "1", "0");
    due(7, false, "111", "001", "000");
    due(7, false, LEAST, LEAST, ZEROS);
  }

  private static void differences() {
    due(8, false, ZEROS, "1", ONES);
    due(8, true, ZEROS, "1", ZEROS.substring(1) + "1");
    due(8, true, LEAST, "01", GREATEST);
    due(8, true, GREATEST, "1", LEAST);
    due(8, false, "0", "1", "1");
    due(8, false, "000", "001", "111");
    due(8, false, ONES, ONES, ZEROS);
    due(8, true, ZEROS, LEAST, LEAST);
  }

  private static void products() {
    due(9, false, "1", "1", "01");
    due(9, true, "1", "1", "01");
    due(9, true, "10", "10", "0100");
    due(9, false, "11", "11", "1001");
    due(9, true, "0", ONES.substring(1), ZEROS);
    due(9, false, "1".repeat(32), "1".repeat(32), "1".repeat(31) + "0".repeat(32) + "1");
    due(9, true, "1" + "0".repeat(31), "1" + "0".repeat(31), "01" + "0".repeat(62));
    due(9, true, "1" + "0".repeat(62), "1", "01" + "0".repeat(62));
    due(9, true, "01" + "0".repeat(61), "1", "111" + "0".repeat(61));
    due(9, false, "1".repeat(63), "1", "0" + "1".repeat(63));
  }

  private static void quotients() {
    due(10, true, "0111", "0010", "0011");
    due(10, true, "1001", "0010", "1101");
    due(10, true, "0111", "1110", "1101");
    due(10, true, "1001", "1110", "0011");
    due(10, true, "0001", "0010", "0000");
    due(10, true, "1111", "0010", "0000");
    due(10, true, LEAST, "01", LEAST);
    due(10, true, LEAST, LEAST, ZEROS.substring(1) + "1");
    due(10, true, GREATEST, LEAST, ZEROS);
    due(10, true, GREATEST, "1", "1" + "0".repeat(62) + "1");
  }

  private static void unsignedQuotients() {
    due(10, false, ONES, "1", ONES);
    due(10, false, ONES, ONES, ZEROS.substring(1) + "1");
    due(10, false, ONES.substring(1) + "0", ONES, ZEROS);
    due(10, false, LEAST, GREATEST, ZEROS.substring(1) + "1");
    due(10, false, GREATEST, LEAST, ZEROS);
    due(10, false, LEAST, LEAST, ZEROS.substring(1) + "1");
    due(10, false, ONES, LEAST, ZEROS.substring(1) + "1");
    due(10, false, ONES, "10", GREATEST);
    due(10, false, ONES, GREATEST, "0".repeat(62) + "10");
    due(10, false, ONES.substring(1) + "0", "1", ONES.substring(1) + "0");
    due(10, false, LEAST, "10", "01" + "0".repeat(62));
    due(10, false, ONES, "11", "01".repeat(32));
    due(10, false, ONES.substring(1) + "0", "11", "01".repeat(31) + "00");
  }

  private static void remainders() {
    due(11, true, "0111", "0010", "0001");
    due(11, true, "1001", "0010", "1111");
    due(11, true, "0111", "1110", "0001");
    due(11, true, "1001", "1110", "1111");
    due(11, true, "1000", "0010", "0000");
    due(11, true, LEAST, "1", "0");
    due(11, true, LEAST, ONES, ZEROS);
    due(11, true, LEAST, GREATEST, ONES);
    due(11, true, GREATEST, LEAST, GREATEST);
    due(11, false, ONES, GREATEST, ZEROS.substring(1) + "1");
    due(11, false, GREATEST, LEAST, GREATEST);
    due(11, false, ONES, LEAST, GREATEST);
    due(11, false, ONES, ONES, ZEROS);
  }

  private static void moduli() {
    due(12, true, "0111", "0010", "0001");
    due(12, true, "1001", "0010", "0001");
    due(12, true, "0111", "1110", "1111");
    due(12, true, "1001", "1110", "1111");
    due(12, true, "1000", "0010", "0000");
    due(12, true, "0110", "1110", "0000");
    due(12, true, LEAST, "1", "0");
    due(12, true, LEAST, ONES, ZEROS);
    due(12, true, LEAST, GREATEST, "0" + "1".repeat(62) + "0");
    due(12, true, GREATEST, LEAST, ONES);
    due(12, false, ONES, GREATEST, ZEROS.substring(1) + "1");
    due(12, false, GREATEST, LEAST, GREATEST);
    due(12, false, ONES, ONES, ZEROS);
  }

  /** The last element counts as less than 0 only when signed: it shows where the words are not of one length. */
  private static void signedOrNot() {
    due(7, false, "1", "00", "01");
    due(7, true, "1", "00", "11");
    due(8, false, "00", "1", "11");
    due(8, true, "00", "1", "01");
    due(9, false, "1", "01", "001");
    due(9, true, "1", "01", "111");
    due(10, false, "10", "11", "00");
    due(10, true, "10", "11", "10");
    due(11, false, "10", "11", "10");
    due(11, true, "10", "11", "00");
    due(12, false, "10", "011", "010");
    due(12, true, "10", "011", "001");
  }

  private static void sumsOfOtherLengths() {
    due(7, false, "11", "0001", "0100");
    due(7, false, "0001", "11", "0100");
    due(7, true, "11", "0001", "0000");
    due(8, false, "11", "0001", "0010");
    due(8, false, "0001", "11", "1110");
    due(8, true, "0001", "11", "0010");
    due(7, false, "1", "0".repeat(63) + "1", "0".repeat(62) + "10");
    due(8, true, "1", ONES, ZEROS);
  }

  private static void productsOfOtherLengths() {
    due(9, false, "1", "111", "0111");
    due(9, true, "1", "111", "0001");
    due(9, true, "100", "1", "0100");
    due(9, false, "1", "1".repeat(63), "0" + "1".repeat(63));
    due(9, true, "1", "1".repeat(63), "0".repeat(63) + "1");
  }

  private static void quotientsOfOtherLengths() {
    due(10, false, "1111", "1", "1111");
    due(10, false, "1", "0001", "1");
    due(10, true, "1", "0001", "1");
    due(10, true, "11", "1", "01");
    due(10, false, "1", ONES, "0");
    due(10, false, ONES, "1", ONES);
    due(10, true, ONES, "1", "0".repeat(63) + "1");
  }

  private static void remaindersOfOtherLengths() {
    for (int operation = 11; operation <= 12; operation++) {
      due(operation, false, "1111", "1", "0");
      due(operation, false, "1", "0010", "0001");
      due(operation, false, ONES, "10", "01");
      due(operation, false, "1", ONES, "0".repeat(63) + "1");
    }
    due(11, true, "1", "0010", "1111");
    due(12, true, "1", "0010", "0001");
    due(12, true, "01", "1110", "1111");
    due(11, true, "1", "0" + "1".repeat(63), ONES);
    due(12, true, "1", "0" + "1".repeat(63), "0" + "1".repeat(62) + "0");
  }

  private static void leastByMinus1() {
    for (int n = 1; n <= 64; n++) {
      String least = LEAST.substring(0, n);
      due(10, true, least, "1", least);
      due(10, true, least, "1".repeat(n), least);
      due(10, true, least, ONES, least);
    }
  }

  private static void weakNumbersCount() {
    due(7, false, "HLLL", "LLL1", "1001");
    due(8, false, "LLHH", "0HLL", "1111");
    due(9, false, "LL1H", "LLHL", "00000110");
    due(10, false, "LHHH", "000H", "0111");
    due(11, false, "HLLL", "LH0H", "0011");
    due(12, true, "HLLL", "LHLH", "0010");
  }

  private static void promise(Section operate) {
    operate.sentence("An operation.", BoundariesOfOperate::firstAndLastOperation);
    operate.sentence("IndexOutOfBoundsException;", BoundariesOfOperate::noPlace);
    operate.sentence(
        "IllegalArgumentException when there is no such operation,", BoundariesOfOperate::noOperation);
    operate.sentence(
        "lengths of 0 .. 6 are not the same,",
        BoundariesOfOperate::lengthsNotTheSame,
        BoundariesOfOperate::lengthsNeedNotBeTheSame);
    operate.sentence(
        "or the answer would be longer than 64;",
        BoundariesOfOperate::longestAnswers,
        BoundariesOfOperate::tooLongAnswers,
        BoundariesOfOperate::tooLongAnswersOfUnknown);
    operate.sentence(
        "ArithmeticException for 10, 11, 12 when both are CLEAR and longer than 0, and b's number is 0.",
        BoundariesOfOperate::byZero,
        BoundariesOfOperate::byZeroNotRefused,
        BoundariesOfOperate::zeroByOthers);
  }

  private static void firstAndLastOperation() {
    due(0, false, "Z", "H", "H");
    due(13, false, "Z", "H", "ZH");
  }

  private static void noPlace() {
    for (int place : Check.NO_PLACES) {
      for (int operation = 0; operation <= 13; operation++) {
        int k = operation;
        String what = "operation " + k + " with place " + place;
        Class<IndexOutOfBoundsException> due = IndexOutOfBoundsException.class;
        Check.refused(what + " as a", due, x -> x.operate(k, false, place, 1, 2), "01", "10");
        Check.refused(what + " as b", due, x -> x.operate(k, false, 0, place, 2), "01", "10");
        Check.refused(what + " as to", due, x -> x.operate(k, false, 0, 1, place), "01", "10");
      }
    }
  }

  private static void noOperation() {
    for (int operation : new int[] {-1, 14, 15, Integer.MIN_VALUE, Integer.MAX_VALUE}) {
      for (boolean signed : BOTH) {
        Check.refused(
            "operation " + operation, IllegalArgumentException.class,
            x -> x.operate(operation, signed, 0, 1, 2), "01", "10", "Z");
      }
    }
  }

  private static void refusesArgument(int operation, String a, String b) {
    String what = "operation " + operation + " of lengths " + a.length() + " and " + b.length();
    for (boolean signed : BOTH) {
      Check.refused(
          what, IllegalArgumentException.class, x -> x.operate(operation, signed, 0, 1, 2), a, b, "Z");
    }
  }

  private static void lengthsNotTheSame() {
    for (int operation = 0; operation <= 6; operation++) {
      refusesArgument(operation, "", "1");
      refusesArgument(operation, "1", "");
      refusesArgument(operation, "01", "001");
      refusesArgument(operation, "001", "01");
      refusesArgument(operation, ONES, ONES.substring(1));
      refusesArgument(operation, ONES.substring(1), ONES);
    }
  }

  private static void lengthsNeedNotBeTheSame() {
    String[] want = {"010", "000", "00001", "01", "000", "000", "01001"};
    for (int operation = 7; operation <= 13; operation++) {
      due(operation, false, "01", "001", want[operation - 7]);
    }
  }

  private static void longestAnswers() {
    due(9, false, "1".repeat(63), "1", "0" + "1".repeat(63));
    due(9, false, "1", "1".repeat(63), "0" + "1".repeat(63));
    due(9, false, ONES, "", "");
    due(9, false, "", ONES, "");
    for (int n = 0; n <= 64; n++) {
      due(13, false, "1".repeat(n), "0".repeat(64 - n), "1".repeat(n) + "0".repeat(64 - n));
    }
    for (int operation : new int[] {7, 8, 10, 11, 12}) {
      Check.due("operation " + operation, Ask.operate(operation, false, ONES, ONES).length(), 64);
    }
  }

  private static void tooLongAnswers() {
    for (int operation : new int[] {9, 13}) {
      refusesArgument(operation, ONES, "1");
      refusesArgument(operation, "1", ONES);
      refusesArgument(operation, "0".repeat(32), "0".repeat(33));
      refusesArgument(operation, "0".repeat(33), "0".repeat(32));
      refusesArgument(operation, ONES, ONES);
    }
  }

  private static void tooLongAnswersOfUnknown() {
    for (int operation : new int[] {9, 13}) {
      refusesArgument(operation, "Z".repeat(64), "1");
      refusesArgument(operation, "1", "Z".repeat(64));
    }
  }

  private static void byZero() {
    for (int operation = 10; operation <= 12; operation++) {
      int k = operation;
      for (boolean signed : BOTH) {
        for (String a : new String[] {"0", "1", "01", "HL", ONES, LEAST, ZEROS}) {
          for (String b : new String[] {"0", "L", "0L0", ZEROS}) {
            Check.refused(
                "operation " + k + " of " + a + " by " + b, ArithmeticException.class,
                x -> x.operate(k, signed, 0, 1, 2), a, b, "Z");
          }
        }
      }
    }
  }

  private static void byZeroNotRefused() {
    for (boolean signed : BOTH) {
      for (int operation = 10; operation <= 12; operation++) {
        due(operation, signed, "", "0", "");
        due(operation, signed, "0", "", "");
        due(operation, signed, "", "", "");
        due(operation, signed, "Z", "0", "X");
        due(operation, signed, "0", "Z", "X");
      }
      due(7, signed, "01", "00", "01");
      due(8, signed, "01", "00", "01");
      due(9, signed, "01", "00", "0000");
    }
  }

  private static void zeroByOthers() {
    for (boolean signed : BOTH) {
      for (int operation = 10; operation <= 12; operation++) {
        due(operation, signed, "0", "1", "0");
        due(operation, signed, ZEROS, ONES, ZEROS);
        due(operation, signed, ZEROS, LEAST, ZEROS);
      }
    }
  }
}
