/** Promise 9: change. */
public final class ChangeTest {
  public static void main(String[] args) {
    elements();
    otherSign();
    size();
    everyShortNumber();
    numbersThatDoNotCount();
    intoItsOwnPlace();
    refuses();
    Check.end();
  }

  private static void due(int kind, String a, String want) {
    NineValues x = Check.holding(a, "ZWZ");
    x.change(kind, 0, 1);
    Check.holds("change " + kind + " of " + a, x, a, want);
  }

  private static void elements() {
    for (int kind = 0; kind <= 4; kind++) {
      due(kind, Check.LETTERS, Tables.CHANGED[kind]);
      due(kind, "", "");
      due(kind, "H".repeat(64), (kind == 4 ? "0" : "1").repeat(64));
    }
  }

  private static void otherSign() {
    due(5, "", "");
    due(5, "0", "0");
    due(5, "1", "1");
    due(5, "00HL", "1110");
    due(5, "1110", "0010");
    due(5, "1000", "1000");
    due(5, "0".repeat(63) + "1", "1".repeat(64));
    due(5, "1" + "0".repeat(63), "1" + "0".repeat(63));
  }

  private static void size() {
    due(6, "", "");
    due(6, "0", "0");
    due(6, "1", "1");
    due(6, "00HL", "0010");
    due(6, "HH1L", "0010");
    due(6, "1000", "1000");
    due(6, "1".repeat(64), "0".repeat(63) + "1");
    due(6, "1" + "0".repeat(63), "1" + "0".repeat(63));
    due(6, "0" + "1".repeat(63), "0" + "1".repeat(63));
  }

  private static void everyShortNumber() {
    for (int n = 1; n <= 6; n++) {
      for (int v = -(1 << n - 1); v < 1 << n - 1; v++) {
        NineValues x = new NineValues();
        x.number(0, n, v);
        x.change(5, 0, 1);
        x.change(6, 0, 2);
        x.number(3, n, -v);
        x.number(4, n, Math.abs(v));
        Check.due(v + " in " + n + " with the other sign", Check.read(x, 1), Check.read(x, 3));
        Check.due("the size of " + v + " in " + n, Check.read(x, 2), Check.read(x, 4));
      }
    }
  }

  private static void numbersThatDoNotCount() {
    for (char value : "UXZW-".toCharArray()) {
      due(5, "01" + value + "1", "XXXX");
      due(6, "01" + value + "1", "XXXX");
      due(6, value + "10", "XXX");
    }
  }

  private static void intoItsOwnPlace() {
    NineValues x = Check.holding("HLZ", "00H");
    x.change(4, 0, 0);
    x.change(5, 1, 1);
    Check.holds("changed in place", x, "01X", "111");
  }

  private static void refuses() {
    NineValues x = Check.holding("0Z11", "ZWZ");
    for (int place : Check.NO_PLACES) {
      for (int kind : new int[] {-1, 0, 4, 5, 7}) {
        Check.outOfBounds("change " + kind + " of place " + place, () -> x.change(kind, place, 1));
        Check.outOfBounds("change " + kind + " into place " + place, () -> x.change(kind, 0, place));
      }
    }
    for (int kind : new int[] {-1, 7, 8, Integer.MIN_VALUE, Integer.MAX_VALUE}) {
      Check.illegalArgument("change " + kind, () -> x.change(kind, 0, 1));
    }
    Check.holds("after changes that threw", x, "0Z11", "ZWZ");
  }
}
