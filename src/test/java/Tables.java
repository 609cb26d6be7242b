/** What the terms say of single values, as tables: row p, column q, in the order of Check.LETTERS. */
final class Tables {
  static final String[] TOGETHER = {
    "UUUUUUUUU",
    "UXXXXXXXX",
    "UX0X0000X",
    "UXX11111X",
    "UX01ZWLHX",
    "UX01WWWWX",
    "UX01LWLWX",
    "UX01HWWHX",
    "UXXXXXXXX"
  };

  static final String[] AND = {
    "UU0UUU0UU",
    "UX0XXX0XX",
    "000000000",
    "UX01XX01X",
    "UX0XXX0XX",
    "UX0XXX0XX",
    "000000000",
    "UX01XX01X",
    "UX0XXX0XX"
  };

  static final String[] OR = {
    "UUU1UUU1U",
    "UXX1XXX1X",
    "UX01XX01X",
    "111111111",
    "UXX1XXX1X",
    "UXX1XXX1X",
    "UX01XX01X",
    "111111111",
    "UXX1XXX1X"
  };

  static final String[] XOR = {
    "UUUUUUUUU",
    "UXXXXXXXX",
    "UX01XX01X",
    "UX10XX10X",
    "UXXXXXXXX",
    "UXXXXXXXX",
    "UX01XX01X",
    "UX10XX10X",
    "UXXXXXXXX"
  };

  static final String NOT = "UX10XX10X";

  /** By the kind of change: 0 to 3 STRIPPED, 4 NOT. */
  static final String[] CHANGED = {"XX01XX01X", "XX01ZX01X", "UX01XX01X", "000100010", NOT};

  /** Which values go together as matched: 1 for those that do. */
  static final String[] MATCHED = {
    "000000001",
    "000000001",
    "001000101",
    "000100011",
    "000000001",
    "000000001",
    "001000101",
    "000100011",
    "111111111"
  };

  private Tables() {}

  static char one(String table, char value) {
    return table.charAt(Check.LETTERS.indexOf(value));
  }

  static char two(String[] table, char p, char q) {
    return one(table[Check.LETTERS.indexOf(p)], q);
  }

  /** Of two values by operation 0 to 6. */
  static char operation(int operation, char p, char q) {
    String[][] tables = {TOGETHER, AND, OR, XOR};
    return operation <= 3 ? two(tables[operation], p, q) : one(NOT, two(tables[operation - 3], p, q));
  }
}
