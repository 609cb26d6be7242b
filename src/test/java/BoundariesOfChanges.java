/** Promises 9 to 12: change, shift, bring, cut. */
final class BoundariesOfChanges {
  private static final String ONES = "1".repeat(64);
  private static final String LEAST = "1" + "0".repeat(63);
  private static final String LONGEST = Check.LETTERS.repeat(8).substring(0, 64);

  private BoundariesOfChanges() {}

  static void test() {
    change(new Section("Promise 9: change"));
    shift(new Section("Promise 10: shift"));
    bring(new Section("Promise 11: bring"));
    cut(new Section("Promise 12: cut"));
  }

  private static void change(Section change) {
    change.sentence(
        "Of one place into another one: kind 0 to 3 STRIPPED, 4 NOT, element by element;",
        BoundariesOfChanges::changedElements,
        BoundariesOfChanges::changedPlaces);
    change.sentence(
        "5 the number with the other sign, put into the same length,", BoundariesOfChanges::otherSign);
    change.sentence("6 its size likewise, signed", BoundariesOfChanges::size);
    change.sentence(
        "(numbers count).", BoundariesOfChanges::numbersDoNotCount, BoundariesOfChanges::numbersOfNothing);
    change.sentence("IndexOutOfBoundsException;", BoundariesOfChanges::changeOfNoPlace);
    change.sentence(
        "IllegalArgumentException when there is no such kind.", BoundariesOfChanges::noKindOfChange);
  }

  private static void changed(int kind, String a, String want) {
    Check.due("change " + kind + " of " + a, Ask.change(kind, a), want);
  }

  private static void changedElements() {
    String longest = "Z" + "L".repeat(62) + "U";
    changed(0, longest, "X" + "0".repeat(62) + "X");
    changed(1, longest, "Z" + "0".repeat(62) + "X");
    changed(2, longest, "X" + "0".repeat(62) + "U");
    changed(3, longest, "0".repeat(64));
    changed(4, longest, "X" + "1".repeat(62) + "U");
    for (int kind = 0; kind <= 4; kind++) {
      changed(kind, "", "");
      changed(kind, "H", kind == 4 ? "0" : "1");
    }
  }

  /** "Another one" is plainly any place but a; no exception is named for that one, so it serves as well. */
  private static void changedPlaces() {
    NineValues x = Check.holding("LH");
    x.change(4, 0, 15);
    Check.due("into 15", Check.read(x, 15), "10");
    Check.holds("into 15", x, "LH");
    x.change(4, 0, 0);
    Check.holds("into its own", x, "10");
    Check.due("into its own", Check.read(x, 15), "10");
  }

  private static void otherSign() {
    for (int n = 1; n <= 64; n++) {
      String least = LEAST.substring(0, n);
      changed(5, least, least);
      changed(5, "0".repeat(n), "0".repeat(n));
      changed(5, "1".repeat(n), "0".repeat(n - 1) + "1");
      changed(5, "0".repeat(n - 1) + "1", "1".repeat(n));
    }
    changed(5, "0" + ONES.substring(1), "1" + "0".repeat(62) + "1");
  }

  private static void size() {
    for (int n = 1; n <= 64; n++) {
      String least = LEAST.substring(0, n);
      changed(6, least, least);
      changed(6, "0".repeat(n), "0".repeat(n));
      changed(6, "1".repeat(n), "0".repeat(n - 1) + "1");
      changed(6, "0" + "1".repeat(n - 1), "0" + "1".repeat(n - 1));
    }
    changed(6, "1" + "0".repeat(62) + "1", "0" + ONES.substring(1));
  }

  private static void numbersDoNotCount() {
    for (int kind = 5; kind <= 6; kind++) {
      for (char value : "UXZW-".toCharArray()) {
        changed(kind, "" + value, "X");
        changed(kind, value + "10", "XXX");
        changed(kind, "10" + value, "XXX");
        changed(kind, value + ONES.substring(1), "X".repeat(64));
      }
      changed(kind, "LH", kind == 5 ? "11" : "01");
    }
  }

  private static void numbersOfNothing() {
    changed(5, "", "");
    changed(6, "", "");
  }

  private static void changeOfNoPlace() {
    for (int place : Check.NO_PLACES) {
      for (int kind = 0; kind <= 6; kind++) {
        int k = kind;
        Check.refused("of " + place, IndexOutOfBoundsException.class, x -> x.change(k, place, 1), "01", "Z");
        Check.refused("into " + place, IndexOutOfBoundsException.class, x -> x.change(k, 0, place), "01", "Z");
      }
    }
  }

  private static void noKindOfChange() {
    for (int kind : new int[] {-1, 7, 8, Integer.MIN_VALUE, Integer.MAX_VALUE}) {
      Check.refused("kind " + kind, IllegalArgumentException.class, x -> x.change(kind, 0, 1), "01", "Z");
      Check.refused("kind " + kind + " of nothing", IllegalArgumentException.class, x -> x.change(kind, 0, 1));
    }
  }

  private static void shift(Section shift) {
    shift.sentence(
        "Elements go by n: kind 0 to the left, value coming in from the right;", BoundariesOfChanges::toTheLeft);
    shift.sentence("1 to the right, value from the left;", BoundariesOfChanges::toTheRight);
    shift.sentence("2 to the right, the last one coming in again and again;", BoundariesOfChanges::withTheLast);
    shift.sentence("3 round to the left, 4 round to the right.", BoundariesOfChanges::round);
    shift.sentence(
        "n less than 0 is the other way by -n",
        BoundariesOfChanges::theOtherWay,
        BoundariesOfChanges::roundTheOtherWay);
    shift.sentence("(2 for the other way as 0 with ZERO).", BoundariesOfChanges::theOtherWayWithZero);
    shift.sentence("IndexOutOfBoundsException;", BoundariesOfChanges::shiftOfNoPlace);
    shift.sentence("IllegalArgumentException when there is no such kind", BoundariesOfChanges::noKindOfShift);
    shift.sentence("or value (also where it comes in nowhere),", BoundariesOfChanges::shiftOfNoValue);
    shift.sentence(
        "or n is not -1000 .. 1000.", BoundariesOfChanges::shiftTooFar, BoundariesOfChanges::shiftAsFarAsCanBe);
  }

  /** With W as the value that may come in. */
  private static void shifted(int kind, int n, String a, String want) {
    Check.due("shift " + kind + " of " + a + " by " + n, Ask.shift(kind, n, 5, a), want);
  }

  private static void toTheLeft() {
    shifted(0, 0, "UX01Z", "UX01Z");
    shifted(0, 1, "UX01Z", "X01ZW");
    shifted(0, 4, "UX01Z", "ZWWWW");
    shifted(0, 5, "UX01Z", "WWWWW");
    shifted(0, 6, "UX01Z", "WWWWW");
    shifted(0, 1, "Z", "W");
    shifted(0, 1, "", "");
    shifted(0, 0, LONGEST, LONGEST);
    shifted(0, 63, LONGEST, LONGEST.charAt(63) + "W".repeat(63));
    shifted(0, 64, LONGEST, "W".repeat(64));
    for (int value = 0; value <= 8; value++) {
      Check.due("value " + value, Ask.shift(0, 1, value, "10"), "0" + Check.LETTERS.charAt(value));
    }
  }

  private static void toTheRight() {
    shifted(1, 0, "UX01Z", "UX01Z");
    shifted(1, 1, "UX01Z", "WUX01");
    shifted(1, 4, "UX01Z", "WWWWU");
    shifted(1, 5, "UX01Z", "WWWWW");
    shifted(1, 6, "UX01Z", "WWWWW");
    shifted(1, 1, "Z", "W");
    shifted(1, 1, "", "");
    shifted(1, 0, LONGEST, LONGEST);
    shifted(1, 63, LONGEST, "W".repeat(63) + LONGEST.charAt(0));
    shifted(1, 64, LONGEST, "W".repeat(64));
    for (int value = 0; value <= 8; value++) {
      Check.due("value " + value, Ask.shift(1, 1, value, "10"), Check.LETTERS.charAt(value) + "1");
    }
  }

  private static void withTheLast() {
    for (char last : Check.LETTERS.toCharArray()) {
      String all = ("" + last).repeat(5);
      shifted(2, 0, last + "X01Z", last + "X01Z");
      shifted(2, 1, last + "X01Z", last + (last + "X01"));
      shifted(2, 4, last + "X01Z", all);
      shifted(2, 5, last + "X01Z", all);
      shifted(2, 6, last + "X01Z", all);
      shifted(2, 1000, last + "X01Z", all);
    }
    shifted(2, 1, "Z", "Z");
    shifted(2, 1, "", "");
    shifted(2, 62, LONGEST, "U".repeat(63) + "X");
    shifted(2, 63, LONGEST, "U".repeat(64));
    shifted(2, 64, LONGEST, "U".repeat(64));
  }

  private static void round() {
    int[] ways = {0, 1, 4, 5, 6, 9, 10, 999, 1000};
    String[] left = {"UX01Z", "X01ZU", "ZUX01", "UX01Z", "X01ZU", "ZUX01", "UX01Z", "ZUX01", "UX01Z"};
    String[] right = {"UX01Z", "ZUX01", "X01ZU", "UX01Z", "ZUX01", "X01ZU", "UX01Z", "X01ZU", "UX01Z"};
    for (int i = 0; i < ways.length; i++) {
      shifted(3, ways[i], "UX01Z", left[i]);
      shifted(4, ways[i], "UX01Z", right[i]);
    }
    for (int kind = 3; kind <= 4; kind++) {
      shifted(kind, 1, "", "");
      shifted(kind, 1000, "", "");
      shifted(kind, 1, "Z", "Z");
      shifted(kind, 1000, "Z", "Z");
      shifted(kind, 64, LONGEST, LONGEST);
      shifted(kind, 960, LONGEST, LONGEST);
    }
    shifted(3, 63, LONGEST, LONGEST.charAt(63) + LONGEST.substring(0, 63));
    shifted(4, 63, LONGEST, LONGEST.substring(1) + LONGEST.charAt(0));
  }

  private static void theOtherWay() {
    shifted(0, -1, "UX01Z", "WUX01");
    shifted(0, -4, "UX01Z", "WWWWU");
    shifted(0, -5, "UX01Z", "WWWWW");
    shifted(0, -1000, "UX01Z", "WWWWW");
    shifted(1, -1, "UX01Z", "X01ZW");
    shifted(1, -4, "UX01Z", "ZWWWW");
    shifted(1, -5, "UX01Z", "WWWWW");
    shifted(1, -1000, "UX01Z", "WWWWW");
    for (int kind = 0; kind <= 4; kind++) {
      shifted(kind, -1, "", "");
      shifted(kind, -1000, "", "");
    }
  }

  private static void roundTheOtherWay() {
    shifted(3, -1, "UX01Z", "ZUX01");
    shifted(3, -5, "UX01Z", "UX01Z");
    shifted(3, -999, "UX01Z", "X01ZU");
    shifted(3, -1000, "UX01Z", "UX01Z");
    shifted(4, -1, "UX01Z", "X01ZU");
    shifted(4, -5, "UX01Z", "UX01Z");
    shifted(4, -999, "UX01Z", "ZUX01");
    shifted(4, -1000, "UX01Z", "UX01Z");
    shifted(3, -64, LONGEST, LONGEST);
    shifted(4, -63, LONGEST, LONGEST.charAt(63) + LONGEST.substring(0, 63));
  }

  private static void theOtherWayWithZero() {
    shifted(2, -1, "HX01Z", "X01Z0");
    shifted(2, -4, "HX01Z", "Z0000");
    shifted(2, -5, "HX01Z", "00000");
    shifted(2, -1000, "HX01Z", "00000");
    shifted(2, -1, "H", "0");
    shifted(2, -64, LONGEST, "0".repeat(64));
    shifted(2, -63, LONGEST, LONGEST.charAt(63) + "0".repeat(63));
  }

  private static void shiftOfNoPlace() {
    for (int place : Check.NO_PLACES) {
      for (int kind = 0; kind <= 4; kind++) {
        int k = kind;
        Check.refused("of " + place, IndexOutOfBoundsException.class, x -> x.shift(k, 1, 1, place, 1), "01", "Z");
        Check.refused("into " + place, IndexOutOfBoundsException.class, x -> x.shift(k, 1, 1, 0, place), "01", "Z");
      }
    }
  }

  private static void refusesShift(int kind, int n, int value) {
    String what = "shift " + kind + " by " + n + " with " + value;
    Check.refused(what, IllegalArgumentException.class, x -> x.shift(kind, n, value, 0, 1), "01", "Z");
    Check.refused(what + " of nothing", IllegalArgumentException.class, x -> x.shift(kind, n, value, 0, 1), "", "Z");
  }

  private static void noKindOfShift() {
    for (int kind : new int[] {-1, 5, 6, Integer.MIN_VALUE, Integer.MAX_VALUE}) {
      refusesShift(kind, 1, 1);
      refusesShift(kind, 0, 1);
      refusesShift(kind, -1, 1);
    }
  }

  private static void shiftOfNoValue() {
    for (int value : Check.NO_VALUES) {
      for (int kind = 0; kind <= 4; kind++) {
        refusesShift(kind, 1, value);
        refusesShift(kind, 0, value);
        refusesShift(kind, -1, value);
      }
    }
  }

  private static void shiftTooFar() {
    for (int n : new int[] {-1001, 1001, Integer.MIN_VALUE, Integer.MIN_VALUE + 1, Integer.MAX_VALUE}) {
      for (int kind = 0; kind <= 4; kind++) {
        refusesShift(kind, n, 1);
      }
    }
  }

  private static void shiftAsFarAsCanBe() {
    String[] there = {"WWW", "WWW", "HHH", "01H", "1H0"};
    String[] back = {"WWW", "WWW", "000", "1H0", "01H"};
    for (int kind = 0; kind <= 4; kind++) {
      shifted(kind, 1000, "H01", there[kind]);
      shifted(kind, -1000, "H01", back[kind]);
    }
  }

  private static void bring(Section bring) {
    bring.sentence(
        "Brought to another length.",
        BoundariesOfChanges::broughtToTheSame,
        BoundariesOfChanges::broughtToNothing,
        BoundariesOfChanges::broughtToTheLongest,
        BoundariesOfChanges::broughtPlaces);
    bring.sentence("IndexOutOfBoundsException;", BoundariesOfChanges::bringOfNoPlace);
    bring.sentence("IllegalArgumentException when n is not 0 .. 64.", BoundariesOfChanges::bringToNoLength);
  }

  private static void broughtToTheSame() {
    for (boolean signed : new boolean[] {false, true}) {
      for (String word : new String[] {"", "Z", Check.LETTERS, LONGEST}) {
        Check.due(word, Ask.bring(signed, word.length(), word), word);
      }
    }
  }

  private static void broughtToNothing() {
    for (boolean signed : new boolean[] {false, true}) {
      Check.due("of 1", Ask.bring(signed, 0, "1"), "");
      Check.due("of 64", Ask.bring(signed, 0, LONGEST), "");
    }
  }

  private static void broughtToTheLongest() {
    Check.due("of 63", Ask.bring(false, 64, ONES.substring(1)), "0" + ONES.substring(1));
    Check.due("of 63, signed", Ask.bring(true, 64, ONES.substring(1)), ONES);
    Check.due("of 1", Ask.bring(false, 64, "H"), "0".repeat(63) + "H");
    Check.due("of 1, signed", Ask.bring(true, 64, "H"), "H".repeat(64));
    Check.due("of none", Ask.bring(false, 64, ""), "0".repeat(64));
    Check.due("of none, signed", Ask.bring(true, 64, ""), "0".repeat(64));
  }

  private static void broughtPlaces() {
    NineValues x = Check.holding("H0", LONGEST);
    x.bring(true, 4, 0, 1);
    Check.holds("over a longer word", x, "H0", "HHH0");
    x.bring(true, 3, 0, 0);
    Check.holds("into its own place", x, "HH0", "HHH0");
    x.bring(true, 1, 1, 1);
    x.bring(false, 3, 1, 1);
    Check.holds("what was lost does not come again", x, "HH0", "000");
  }

  private static void bringOfNoPlace() {
    for (int place : Check.NO_PLACES) {
      for (boolean signed : new boolean[] {false, true}) {
        Check.refused("of " + place, IndexOutOfBoundsException.class, x -> x.bring(signed, 1, place, 1), "01", "Z");
        Check.refused("into " + place, IndexOutOfBoundsException.class, x -> x.bring(signed, 1, 0, place), "01", "Z");
      }
    }
  }

  private static void bringToNoLength() {
    for (int n : Check.NO_LENGTHS) {
      for (boolean signed : new boolean[] {false, true}) {
        Check.refused("to " + n, IllegalArgumentException.class, x -> x.bring(signed, n, 0, 1), "01", "Z");
        Check.refused("nothing to " + n, IllegalArgumentException.class, x -> x.bring(signed, n, 0, 1), "", "Z");
      }
    }
  }

  private static void cut(Section cut) {
    cut.sentence(
        "Elements from k on, n of them, go to another place.",
        BoundariesOfChanges::cutWhole,
        BoundariesOfChanges::cutOfNone,
        BoundariesOfChanges::cutAtBothEnds,
        BoundariesOfChanges::cutPlaces);
    cut.sentence("IndexOutOfBoundsException", BoundariesOfChanges::cutOfNoPlace);
    cut.sentence("(also when k is not 0 .. the length,", BoundariesOfChanges::cutFromOutside);
    cut.sentence("they are not all there,", BoundariesOfChanges::cutOfTooMany, BoundariesOfChanges::cutWrapsNotRound);
    cut.sentence("or n is below 0).", BoundariesOfChanges::cutOfLessThanNone);
  }

  private static void cutOut(int k, int n, String a, String want) {
    Check.due("cut of " + n + " from " + k + " on of " + a, Ask.cut(k, n, a), want);
  }

  private static void cutWhole() {
    cutOut(0, 64, LONGEST, LONGEST);
    cutOut(0, 5, "UX01Z", "UX01Z");
    cutOut(0, 1, "Z", "Z");
  }

  private static void cutOfNone() {
    cutOut(0, 0, "", "");
    for (int k = 0; k <= 5; k++) {
      cutOut(k, 0, "UX01Z", "");
    }
    cutOut(64, 0, LONGEST, "");
  }

  private static void cutAtBothEnds() {
    cutOut(0, 1, "UX01Z", "Z");
    cutOut(4, 1, "UX01Z", "U");
    cutOut(0, 4, "UX01Z", "X01Z");
    cutOut(1, 4, "UX01Z", "UX01");
    cutOut(63, 1, LONGEST, LONGEST.substring(0, 1));
    cutOut(1, 63, LONGEST, LONGEST.substring(0, 63));
  }

  /** "Another place" is plainly any but a; no exception is named for that one, so it serves as well. */
  private static void cutPlaces() {
    NineValues x = Check.holding("UX01Z", LONGEST);
    x.cut(1, 3, 0, 1);
    Check.holds("over a longer word", x, "UX01Z", "X01");
    x.cut(2, 3, 0, 0);
    Check.holds("into its own place", x, "UX0", "X01");
  }

  private static void cutOfNoPlace() {
    for (int place : Check.NO_PLACES) {
      Check.refused("of " + place, IndexOutOfBoundsException.class, x -> x.cut(0, 0, place, 1), "01", "Z");
      Check.refused("into " + place, IndexOutOfBoundsException.class, x -> x.cut(0, 0, 0, place), "01", "Z");
    }
  }

  private static void refusesCut(int k, int n, String a) {
    String what = "cut of " + n + " from " + k + " on of " + a;
    Check.refused(what, IndexOutOfBoundsException.class, x -> x.cut(k, n, 0, 1), a, "Z");
  }

  private static void cutFromOutside() {
    for (int n : new int[] {0, 1, 2}) {
      refusesCut(-1, n, "01Z");
      refusesCut(4, n, "01Z");
      refusesCut(Integer.MIN_VALUE, n, "01Z");
      refusesCut(Integer.MAX_VALUE, n, "01Z");
      refusesCut(-1, n, "");
      refusesCut(1, n, "");
      refusesCut(65, n, LONGEST);
    }
  }

  private static void cutOfTooMany() {
    refusesCut(0, 4, "01Z");
    refusesCut(1, 3, "01Z");
    refusesCut(2, 2, "01Z");
    refusesCut(3, 1, "01Z");
    refusesCut(0, 64, "01Z");
    refusesCut(0, 1, "");
    refusesCut(0, 65, LONGEST);
    refusesCut(64, 1, LONGEST);
    refusesCut(1, 64, LONGEST);
  }

  /** A sum of k and n as ints would be below 0, or 0, in these. */
  private static void cutWrapsNotRound() {
    refusesCut(0, Integer.MAX_VALUE, "01Z");
    refusesCut(1, Integer.MAX_VALUE, "01Z");
    refusesCut(3, Integer.MAX_VALUE, "01Z");
    refusesCut(Integer.MAX_VALUE, Integer.MAX_VALUE, "01Z");
    refusesCut(Integer.MIN_VALUE, Integer.MIN_VALUE, "01Z");
    refusesCut(-1, 3, "01Z");
  }

  private static void cutOfLessThanNone() {
    for (int n : new int[] {-1, -2, -3, Integer.MIN_VALUE}) {
      refusesCut(0, n, "01Z");
      refusesCut(1, n, "01Z");
      refusesCut(3, n, "01Z");
      refusesCut(0, n, "");
    }
  }
}
