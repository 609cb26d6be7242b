import java.util.function.BiConsumer;

/** Promises 1 to 7: a new object, fill, put, get, length, number, numberOf. */
final class BoundariesOfPlaces {
  private static final String LONGEST = Check.LETTERS.repeat(8).substring(0, 64);

  private BoundariesOfPlaces() {}

  static void test() {
    new Section("Promise 1: A new object").sentence(
        "All places hold words of length 0.",
        BoundariesOfPlaces::newPlacesAreEmpty,
        BoundariesOfPlaces::newObjectAfterAnother);
    fill(new Section("Promise 2: fill"));
    put(new Section("Promise 3: put"));
    get(new Section("Promise 4: get"));
    length(new Section("Promise 5: length"));
    number(new Section("Promise 6: number"));
    numberOf(new Section("Promise 7: numberOf"));
  }

  private static void newPlacesAreEmpty() {
    for (int place = 0; place < 16; place++) {
      NineValues x = new NineValues();
      int to = place;
      Check.due("the length of place " + place, x.length(place), 0);
      Check.outOfBounds("get of place " + place, () -> x.get(to, 0));
      Check.outOfBounds("put into place " + place, () -> x.put(to, 0, 0));
      Check.due("the number of place " + place, x.numberOf(place, true), 0L);
      Check.due("compare with itself", x.compare(false, place, place), 2);
      Check.due("all driven together", x.all(3, place), 4);
    }
  }

  private static void newObjectAfterAnother() {
    NineValues used = new NineValues();
    used.fill(0, 64, 3);
    used.fill(15, 64, 3);
    Check.due("places of a new one", String.join("", Check.readAll(new NineValues())), "");
    Check.due("the used one's place", used.length(15), 64);
  }

  private static void refusesPlaces(BiConsumer<NineValues, Integer> call) {
    for (int place : Check.NO_PLACES) {
      Check.refused("place " + place, IndexOutOfBoundsException.class, x -> call.accept(x, place), "01", "10");
    }
    for (int place : new int[] {0, 15}) {
      NineValues x = Check.holding("01");
      Check.write(x, 15, "10");
      call.accept(x, place);
      Check.due("a call of place " + place + " leaves place 7", x.length(7), 0);
    }
  }

  private static void fill(Section fill) {
    fill.sentence(
        "A place becomes n elements, all the same value.",
        BoundariesOfPlaces::filledWithNothing,
        BoundariesOfPlaces::filledWhole,
        BoundariesOfPlaces::filledAgain);
    fill.sentence("IndexOutOfBoundsException;", () -> refusesPlaces((x, place) -> x.fill(place, 1, 1)));
    fill.sentence("IllegalArgumentException when n is not 0 .. 64,", () -> {
      for (int n : Check.NO_LENGTHS) {
        Check.refused("fill of " + n, IllegalArgumentException.class, x -> x.fill(0, n, 1), "01");
      }
    });
    fill.sentence("or there is no such value.", () -> {
      for (int value : Check.NO_VALUES) {
        Check.refused("fill with " + value, IllegalArgumentException.class, x -> x.fill(0, 1, value), "01");
        Check.refused("no element of " + value, IllegalArgumentException.class, x -> x.fill(0, 0, value), "01");
      }
    });
  }

  private static void filledWithNothing() {
    for (int value = 0; value <= 8; value++) {
      NineValues x = Check.holding(LONGEST, LONGEST);
      x.fill(0, 0, value);
      Check.holds("fill of 0 with " + value, x, "", LONGEST);
    }
  }

  private static void filledWhole() {
    for (int value = 0; value <= 8; value++) {
      String letter = Check.LETTERS.substring(value, value + 1);
      NineValues x = Check.holding("", "", "");
      x.fill(1, 64, value);
      Check.holds("fill of 64 with " + value, x, "", letter.repeat(64), "");
      x.fill(1, 1, value);
      Check.holds("fill of 1 with " + value, x, "", letter, "");
    }
  }

  private static void filledAgain() {
    NineValues x = Check.holding(LONGEST);
    x.fill(0, 2, 4);
    Check.holds("filled shorter", x, "ZZ");
    x.fill(0, 64, 6);
    Check.holds("filled longer", x, "L".repeat(64));
  }

  private static void put(Section put) {
    put.sentence(
        "An element of a place becomes a value.",
        BoundariesOfPlaces::putAtBothEnds,
        BoundariesOfPlaces::putIntoOneElement);
    put.sentence(
        "IndexOutOfBoundsException;",
        () -> refusesPlaces((x, place) -> x.put(place, 0, 1)),
        BoundariesOfPlaces::putOutside,
        BoundariesOfPlaces::putWhereAnElementWas);
    put.sentence("IllegalArgumentException when there is none such.", () -> {
      for (int value : Check.NO_VALUES) {
        Check.refused("put of " + value, IllegalArgumentException.class, x -> x.put(0, 0, value), "01");
        Check.refused("put last of " + value, IllegalArgumentException.class, x -> x.put(0, 1, value), "01");
      }
    });
  }

  private static void putAtBothEnds() {
    for (int value = 0; value <= 8; value++) {
      char letter = Check.LETTERS.charAt(value);
      NineValues x = new NineValues();
      x.fill(0, 64, 2);
      x.put(0, 0, value);
      Check.holds("put of " + value + " at 0", x, "0".repeat(63) + letter);
      x.put(0, 63, value);
      Check.holds("put of " + value + " at 63", x, letter + "0".repeat(62) + letter);
    }
  }

  private static void putIntoOneElement() {
    NineValues x = Check.holding("Z", "Z");
    x.put(0, 0, 8);
    Check.holds("put into a word of length 1", x, "-", "Z");
  }

  private static void putOutside() {
    for (int k : new int[] {-1, 3, 64, Integer.MIN_VALUE, Integer.MAX_VALUE}) {
      Check.refused("put at " + k, IndexOutOfBoundsException.class, x -> x.put(0, k, 1), "01Z", LONGEST);
    }
    Check.refused("put at 64 of 64", IndexOutOfBoundsException.class, x -> x.put(1, 64, 1), "01Z", LONGEST);
    Check.refused("put into nothing", IndexOutOfBoundsException.class, x -> x.put(2, 0, 1), "01Z", LONGEST);
  }

  private static void putWhereAnElementWas() {
    NineValues x = Check.holding(LONGEST);
    x.fill(0, 2, 2);
    Check.outOfBounds("put at 2 of what was longer", () -> x.put(0, 2, 1));
    Check.outOfBounds("put at 63 of what was longer", () -> x.put(0, 63, 1));
    x.fill(0, 0, 2);
    Check.outOfBounds("put at 0 of what was longer", () -> x.put(0, 0, 1));
    Check.holds("after them", x, "");
  }

  private static void get(Section get) {
    get.sentence("An element.", () -> {
      NineValues x = Check.holding(LONGEST, "Z");
      for (int k = 0; k < 64; k++) {
        Check.due("element " + k + " of 64", Check.LETTERS.charAt(x.get(0, k)), LONGEST.charAt(63 - k));
      }
      Check.due("element 0 of 1", x.get(1, 0), 4);
    });
    get.sentence(
        "IndexOutOfBoundsException.",
        () -> refusesPlaces((x, place) -> x.get(place, 0)),
        BoundariesOfPlaces::getOutside,
        BoundariesOfPlaces::getWhereAnElementWas);
  }

  private static void getOutside() {
    for (int k : new int[] {-1, 3, 64, Integer.MIN_VALUE, Integer.MAX_VALUE}) {
      Check.refused("get of " + k, IndexOutOfBoundsException.class, x -> x.get(0, k), "01Z", LONGEST);
    }
    Check.refused("get of 64 of 64", IndexOutOfBoundsException.class, x -> x.get(1, 64), "01Z", LONGEST);
    Check.refused("get of nothing", IndexOutOfBoundsException.class, x -> x.get(2, 0), "01Z", LONGEST);
  }

  private static void getWhereAnElementWas() {
    NineValues x = Check.holding(LONGEST);
    x.number(0, 2, 1);
    Check.outOfBounds("get of 2 of what was longer", () -> x.get(0, 2));
    Check.outOfBounds("get of 63 of what was longer", () -> x.get(0, 63));
    x.cut(0, 0, 0, 0);
    Check.outOfBounds("get of 0 of what was longer", () -> x.get(0, 0));
  }

  private static void length(Section length) {
    length.sentence("The length of a place's word.", () -> {
      NineValues x = new NineValues();
      for (int n : new int[] {0, 1, 63, 64, 2, 0, 64}) {
        x.fill(9, n, 0);
        Check.due("filled to " + n, x.length(9), n);
      }
      x.put(9, 63, 0);
      Check.due("after a put", x.length(9), 64);
    });
    length.sentence("IndexOutOfBoundsException.", () -> refusesPlaces((x, place) -> x.length(place)));
  }

  private static void number(Section number) {
    number.sentence("A number is put into n elements.", () -> {
      Check.due("none", Ask.number(0, Long.MIN_VALUE), "");
      Check.due("1 in one", Ask.number(1, 1), "1");
      Check.due("2 in one", Ask.number(1, 2), "0");
      Check.due("-1 in one", Ask.number(1, -1), "1");
      Check.due("-1 in 64", Ask.number(64, -1), "1".repeat(64));
      Check.due("0 in 64", Ask.number(64, 0), "0".repeat(64));
      Check.due("the least long", Ask.number(64, Long.MIN_VALUE), "1" + "0".repeat(63));
      Check.due("the greatest long", Ask.number(64, Long.MAX_VALUE), "0" + "1".repeat(63));
      Check.due("2^32 in 33", Ask.number(33, 1L << 32), "1" + "0".repeat(32));
      Check.due("2^32 in 32", Ask.number(32, 1L << 32), "0".repeat(32));
    });
    number.sentence("IndexOutOfBoundsException;", () -> refusesPlaces((x, place) -> x.number(place, 1, 1)));
    number.sentence("IllegalArgumentException when n is not 0 .. 64.", () -> {
      for (int n : Check.NO_LENGTHS) {
        Check.refused("number in " + n, IllegalArgumentException.class, x -> x.number(0, n, 0), "01");
      }
    });
  }

  private static void numberOf(Section numberOf) {
    numberOf.sentence(
        "The number of a word as 64 bits (unsigned ones from 2^63 on as longs below 0).",
        BoundariesOfPlaces::unsignedNumbers,
        BoundariesOfPlaces::signedNumbers);
    numberOf.sentence("IndexOutOfBoundsException;", () -> {
      refusesPlaces((x, place) -> x.numberOf(place, false));
      refusesPlaces((x, place) -> x.numberOf(place, true));
    });
    numberOf.sentence(
        "IllegalStateException when it is not CLEAR.",
        BoundariesOfPlaces::numberOfNotClear,
        BoundariesOfPlaces::numberOfNothing,
        BoundariesOfPlaces::numberOfWhatIsClearAgain);
  }

  private static void unsignedNumbers() {
    Check.due("2^63 - 1", Ask.numberOf(false, "0" + "1".repeat(63)), Long.MAX_VALUE);
    Check.due("2^63 - 1 in 63", Ask.numberOf(false, "1".repeat(63)), Long.MAX_VALUE);
    Check.due("2^63", Ask.numberOf(false, "1" + "0".repeat(63)), Long.MIN_VALUE);
    Check.due("2^63 + 1", Ask.numberOf(false, "H" + "L".repeat(62) + "H"), Long.MIN_VALUE + 1);
    Check.due("2^64 - 1", Ask.numberOf(false, "1".repeat(64)), -1L);
    Check.due("2^62 in 63", Ask.numberOf(false, "1" + "0".repeat(62)), 1L << 62);
    Check.due("2^31 in 32", Ask.numberOf(false, "1" + "0".repeat(31)), 1L << 31);
    Check.due("1 in 1", Ask.numberOf(false, "1"), 1L);
  }

  private static void signedNumbers() {
    Check.due("the least of 64", Ask.numberOf(true, "1" + "0".repeat(63)), Long.MIN_VALUE);
    Check.due("the greatest of 64", Ask.numberOf(true, "0" + "1".repeat(63)), Long.MAX_VALUE);
    Check.due("-1 of 64", Ask.numberOf(true, "H".repeat(64)), -1L);
    Check.due("the least of 63", Ask.numberOf(true, "1" + "0".repeat(62)), -1L << 62);
    Check.due("the least of 32", Ask.numberOf(true, "1" + "0".repeat(31)), -1L << 31);
    Check.due("-1 of 1", Ask.numberOf(true, "1"), -1L);
    Check.due("-1 of 1, weak", Ask.numberOf(true, "H"), -1L);
  }

  private static void numberOfNotClear() {
    for (char value : "UXZW-".toCharArray()) {
      for (String word : new String[] {"" + value, "11" + value, value + "11", value + "0".repeat(63)}) {
        Check.refused(word, IllegalStateException.class, x -> x.numberOf(0, false), word);
        Check.refused(word + ", signed", IllegalStateException.class, x -> x.numberOf(0, true), word);
      }
    }
  }

  private static void numberOfNothing() {
    Check.due("nothing", Ask.numberOf(false, ""), 0L);
    Check.due("nothing, signed", Ask.numberOf(true, ""), 0L);
  }

  /** What a longer word held before does not count. */
  private static void numberOfWhatIsClearAgain() {
    NineValues x = Check.holding("Z1");
    x.fill(0, 1, 3);
    Check.due("one ONE, where Z was behind it", x.numberOf(0, false), 1L);
    x.fill(0, 0, 0);
    Check.due("nothing, where ONE was", x.numberOf(0, true), 0L);
  }
}
