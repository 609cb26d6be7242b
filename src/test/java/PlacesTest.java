/** Promises 1 to 5: a new object, fill, put, get, length. */
public final class PlacesTest {
  public static void main(String[] args) {
    newObject();
    fill();
    fillRefuses();
    put();
    putRefuses();
    get();
    length();
    Check.end();
  }

  private static void newObject() {
    NineValues x = new NineValues();
    for (int place = 0; place < 16; place++) {
      Check.due("new: length of " + place, x.length(place), 0);
    }
    x.fill(3, 5, 3);
    Check.due("a second object has its own places", new NineValues().length(3), 0);
  }

  private static void fill() {
    for (int n = 0; n <= 64; n++) {
      NineValues x = new NineValues();
      x.fill(n % 16, n, n % 9);
      Check.due("fill " + n, Check.read(x, n % 16), Check.LETTERS.substring(n % 9, n % 9 + 1).repeat(n));
      Check.due("fill leaves the next place", x.length((n + 1) % 16), 0);
    }
    NineValues x = Check.holding("01ZX");
    x.fill(0, 2, 7);
    Check.holds("filled again, shorter", x, "HH");
    x.fill(0, 6, 8);
    Check.holds("filled again, longer", x, "------");
  }

  private static void fillRefuses() {
    NineValues x = Check.holding("01ZX");
    for (int place : Check.NO_PLACES) {
      Check.outOfBounds("fill of place " + place, () -> x.fill(place, 1, 1));
      Check.outOfBounds("fill of place " + place + ", first named", () -> x.fill(place, 65, 9));
    }
    for (int n : Check.NO_LENGTHS) {
      Check.illegalArgument("fill of length " + n, () -> x.fill(0, n, 1));
    }
    for (int value : Check.NO_VALUES) {
      Check.illegalArgument("fill with " + value, () -> x.fill(0, 1, value));
      Check.illegalArgument("fill of nothing with " + value, () -> x.fill(0, 0, value));
    }
    Check.holds("after fills that threw", x, "01ZX");
  }

  private static void put() {
    NineValues x = Check.holding("00000", "11111");
    for (int value = 0; value < 9; value++) {
      x.put(0, 1, value);
      Check.holds("put " + value, x, "000" + Check.LETTERS.charAt(value) + "0", "11111");
    }
    x.put(0, 4, 3);
    x.put(0, 0, 4);
    Check.holds("put at both ends", x, "100-Z", "11111");
    x.fill(15, 64, 2);
    x.put(15, 63, 8);
    Check.due("put into the last of 64", Check.read(x, 15), "-" + "0".repeat(63));
  }

  private static void putRefuses() {
    NineValues x = Check.holding("01ZX");
    x.fill(0, 60, 1);
    x.fill(0, 2, 2);
    for (int place : Check.NO_PLACES) {
      Check.outOfBounds("put into place " + place, () -> x.put(place, 0, 1));
      Check.outOfBounds("put into place " + place + ", first named", () -> x.put(place, 0, 9));
    }
    for (int k : new int[] {-1, 2, 3, 59, 63, 64, Integer.MIN_VALUE, Integer.MAX_VALUE}) {
      Check.outOfBounds("put of element " + k, () -> x.put(0, k, 1));
      Check.outOfBounds("put of element " + k + ", first named", () -> x.put(0, k, -1));
    }
    Check.outOfBounds("put into an empty word", () -> x.put(1, 0, 1));
    for (int value : Check.NO_VALUES) {
      Check.illegalArgument("put of " + value, () -> x.put(0, 0, value));
    }
    Check.holds("after puts that threw", x, "00");
  }

  private static void get() {
    NineValues x = Check.holding("UX01ZWLH-");
    for (int k = 0; k < 9; k++) {
      Check.due("get " + k, x.get(0, k), 8 - k);
    }
    for (int place : Check.NO_PLACES) {
      Check.outOfBounds("get of place " + place, () -> x.get(place, 0));
    }
    for (int k : new int[] {-1, 9, 10, 63, 64, Integer.MIN_VALUE, Integer.MAX_VALUE}) {
      Check.outOfBounds("get of element " + k, () -> x.get(0, k));
    }
    Check.outOfBounds("get of an empty word", () -> x.get(1, 0));
    Check.holds("after gets", x, "UX01ZWLH-");
  }

  private static void length() {
    NineValues x = new NineValues();
    for (int place = 0; place < 16; place++) {
      x.fill(place, 4 * place + 4, 1);
    }
    for (int place = 0; place < 16; place++) {
      Check.due("length of " + place, x.length(place), 4 * place + 4);
    }
    for (int place : Check.NO_PLACES) {
      Check.outOfBounds("length of place " + place, () -> x.length(place));
    }
  }
}
