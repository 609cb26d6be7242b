/** The terms that tell of single values: each clause by itself, with all that the clauses before it leave. */
final class BoundariesOfValues {
  private static final String NOT_CLEAR = "UXZW-";

  private BoundariesOfValues() {}

  static void test() {
    Section terms = new Section("Terms");
    terms.sentence(
        "VALUES are 0 .. 8: 0 U (never given), 1 X (unknown), 2 ZERO, 3 ONE, 4 Z (not driven), 5 W (weakly unknown), "
            + "6 L (weakly zero), 7 H (weakly one), 8 FREE (no matter which).",
        BoundariesOfValues::leastAndGreatest,
        BoundariesOfValues::noValues);
    terms.sentence(
        "A value is LOW when it is ZERO or L, HIGH when it is ONE or H, CLEAR when it is one of these four.",
        BoundariesOfValues::clear,
        BoundariesOfValues::notClear);
    together(terms);
    and(terms);
    or(terms);
    xor(terms);
    not(terms);
    stripped(terms);
  }

  private static void leastAndGreatest() {
    NineValues x = Check.holding("01");
    for (int value : new int[] {0, 8}) {
      x.fill(1, 1, value);
      Check.due("filled with " + value, x.get(1, 0), value);
      x.put(0, 1, value);
      Check.due("put " + value, x.get(0, 1), value);
      x.shift(0, 2, value, 0, 2);
      Check.due("shifted in " + value, x.get(2, 0), value);
      Check.due("edge from and to " + value, x.edge(value, value), 0);
    }
  }

  private static void noValues() {
    for (int value : Check.NO_VALUES) {
      Check.refused("fill with " + value, IllegalArgumentException.class, x -> x.fill(0, 1, value), "01");
      Check.refused("put " + value, IllegalArgumentException.class, x -> x.put(0, 0, value), "01");
      Check.refused("shift in " + value, IllegalArgumentException.class, x -> x.shift(0, 1, value, 0, 1), "01");
      Check.refused("edge from " + value, IllegalArgumentException.class, x -> x.edge(value, 2), "01");
      Check.refused("edge to " + value, IllegalArgumentException.class, x -> x.edge(2, value), "01");
    }
  }

  private static void clear() {
    for (char value : "0L1H".toCharArray()) {
      long want = "1H".indexOf(value) >= 0 ? 1 : 0;
      Check.due("the number of " + value, Ask.numberOf(false, "" + value), want);
      Check.due("the signed number of " + value, Ask.numberOf(true, "" + value), -want);
    }
  }

  private static void notClear() {
    for (char value : NOT_CLEAR.toCharArray()) {
      Check.refused(
          "the number of " + value, IllegalStateException.class, x -> x.numberOf(0, false), "" + value);
    }
  }

  /** Of each value of the one text with each of the other, in both orders. */
  private static void pairs(int operation, String some, String others, char want) {
    for (char p : some.toCharArray()) {
      for (char q : others.toCharArray()) {
        Check.due(p + " with " + q, Ask.operate(operation, false, "" + p, "" + q), "" + want);
        Check.due(q + " with " + p, Ask.operate(operation, false, "" + q, "" + p), "" + want);
      }
    }
  }

  private static void together(Section terms) {
    terms.sentence("DRIVEN TOGETHER, two values make: U if one is U;", () -> pairs(0, "U", Check.LETTERS, 'U'));
    terms.sentence("else X if one is X or FREE;", () -> pairs(0, "X-", "X01ZWLH-", 'X'));
    terms.sentence("else the other one if one is Z;", BoundariesOfValues::notDriven);
    terms.sentence("else X of ZERO and ONE;", () -> pairs(0, "0", "1", 'X'));
    terms.sentence("else the one that is ZERO or ONE, if there is one;", BoundariesOfValues::strong);
    terms.sentence("of W, L, H the same one of two that are the same, else W.", BoundariesOfValues::weak);
  }

  private static void notDriven() {
    for (char other : "01ZWLH".toCharArray()) {
      pairs(0, "Z", "" + other, other);
    }
  }

  private static void strong() {
    pairs(0, "0", "0WLH", '0');
    pairs(0, "1", "1WLH", '1');
  }

  private static void weak() {
    pairs(0, "L", "L", 'L');
    pairs(0, "H", "H", 'H');
    pairs(0, "W", "WLH", 'W');
    pairs(0, "L", "H", 'W');
  }

  /** Of the operation, and of the one that is the same turned by NOT. */
  private static void logic(int operation, String some, String others, char want) {
    pairs(operation, some, others, want);
    pairs(operation + 3, some, others, Tables.one(Tables.NOT, want));
  }

  private static void and(Section terms) {
    terms.sentence("LOGIC of two values: AND: ZERO if one is LOW;", () -> logic(1, "0L", Check.LETTERS, '0'));
    terms.sentence("else U if one is U; else ONE if both are HIGH;", () -> {
      logic(1, "U", "UX1ZWH-", 'U');
      logic(1, "1H", "1H", '1');
    });
    terms.sentence("else ONE if both are HIGH; else X.", () -> logic(1, "XZW-", "X1ZWH-", 'X'));
  }

  private static void or(Section terms) {
    terms.sentence("OR: ONE if one is HIGH;", () -> logic(2, "1H", Check.LETTERS, '1'));
    terms.sentence("else U if one is U; else ZERO if both are LOW;", () -> {
      logic(2, "U", "UX0ZWL-", 'U');
      logic(2, "0L", "0L", '0');
    });
    terms.sentence("else ZERO if both are LOW; else X.", () -> logic(2, "XZW-", "X0ZWL-", 'X'));
  }

  private static void xor(Section terms) {
    terms.sentence("XOR: U if one is U;", () -> logic(3, "U", Check.LETTERS, 'U'));
    terms.sentence("else X if one is not CLEAR;", () -> logic(3, "XZW-", "X01ZWLH-", 'X'));
    terms.sentence("else ZERO if both are LOW or both HIGH, otherwise ONE.", () -> {
      logic(3, "0L", "0L", '0');
      logic(3, "1H", "1H", '0');
      logic(3, "0L", "1H", '1');
    });
  }

  private static void not(Section terms) {
    terms.sentence(
        "NOT of one: U of U, ONE of a LOW one, ZERO of a HIGH one, else X.",
        () -> Check.due("NOT", Ask.change(4, "U0L1HXZW-"), "U1100XXXX"));
  }

  private static void stripped(Section terms) {
    terms.sentence(
        "STRIPPED, kind 0: ZERO of a LOW one, ONE of a HIGH one, else X;",
        () -> Check.due("kind 0", Ask.change(0, "0L1HUXZW-"), "0011XXXXX"));
    terms.sentence(
        "1: likewise, but Z stays;", () -> Check.due("kind 1", Ask.change(1, "0L1HUXZW-"), "0011XXZXX"));
    terms.sentence(
        "2: likewise as 0, but U stays;", () -> Check.due("kind 2", Ask.change(2, "0L1HUXZW-"), "0011UXXXX"));
    terms.sentence(
        "3: as 0, but ZERO in place of X.", () -> Check.due("kind 3", Ask.change(3, "0L1HUXZW-"), "001100000"));
  }
}
