/** Promises 15 and 16: all, edge. */
public final class AllAndEdgeTest {
  public static void main(String[] args) {
    allKnown();
    allOfThree();
    allRefuses();
    edge();
    edgeRefuses();
    Check.end();
  }

  /** The due answers of kinds 0 to 3, as letters. */
  private static void joined(String a, String want) {
    NineValues x = Check.holding(a);
    for (int kind = 0; kind <= 3; kind++) {
      char got = Check.LETTERS.charAt(x.all(kind, 0));
      Check.due("all " + kind + " of " + a, got, want.charAt(kind));
    }
    Check.holds("all leaves its word", x, a);
  }

  private static void allKnown() {
    joined("", "100Z");
    joined("0", "0000");
    joined("1", "1111");
    joined("L", "000L");
    joined("H", "111H");
    joined("Z", "XXXZ");
    joined("W", "XXXW");
    joined("-", "XXXX");
    joined("U", "UUUU");
    joined("ZZHZ", "X1XH");
    joined("U0", "0UUU");
    joined("U1", "U1UU");
    joined("111", "1111");
    joined("0110", "010X");
    joined("1".repeat(64), "1101");
    joined("Z".repeat(63) + "0", "0XX0");
  }

  private static void allOfThree() {
    String[][] tables = {Tables.AND, Tables.OR, Tables.XOR, Tables.TOGETHER};
    for (char p : Check.LETTERS.toCharArray()) {
      for (char q : Check.LETTERS.toCharArray()) {
        for (char r : Check.LETTERS.toCharArray()) {
          StringBuilder want = new StringBuilder();
          for (int kind = 0; kind <= 3; kind++) {
            char value = Tables.two(tables[kind], "100Z".charAt(kind), r);
            value = Tables.two(tables[kind], value, q);
            want.append(Tables.two(tables[kind], value, p));
          }
          joined("" + p + q + r, want.toString());
        }
      }
    }
  }

  private static void allRefuses() {
    NineValues x = Check.holding("011");
    for (int place : Check.NO_PLACES) {
      Check.outOfBounds("all of place " + place, () -> x.all(0, place));
      Check.outOfBounds("all of place " + place + ", first named", () -> x.all(4, place));
    }
    for (int kind : new int[] {-1, 4, 5, Integer.MIN_VALUE, Integer.MAX_VALUE}) {
      Check.illegalArgument("all " + kind, () -> x.all(kind, 0));
      Check.illegalArgument("all " + kind + " of nothing", () -> x.all(kind, 1));
    }
  }

  private static void edge() {
    for (char before : Check.LETTERS.toCharArray()) {
      for (char now : Check.LETTERS.toCharArray()) {
        boolean rising = "0L".indexOf(before) >= 0 && "1H".indexOf(now) >= 0;
        boolean falling = "1H".indexOf(before) >= 0 && "0L".indexOf(now) >= 0;
        int got = new NineValues().edge(Check.LETTERS.indexOf(before), Check.LETTERS.indexOf(now));
        Check.due("edge from " + before + " to " + now, got, rising ? 1 : falling ? -1 : 0);
      }
    }
  }

  private static void edgeRefuses() {
    NineValues x = new NineValues();
    for (int value : Check.NO_VALUES) {
      Check.illegalArgument("edge from " + value, () -> x.edge(value, 3));
      Check.illegalArgument("edge to " + value, () -> x.edge(2, value));
      Check.illegalArgument("edge from and to " + value, () -> x.edge(value, value));
    }
  }
}
