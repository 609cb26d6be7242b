/** Answers of single calls on new objects, with words as letters (see Check.LETTERS), the last element first. */
final class Ask {
  static final int TO = 15;

  private Ask() {}

  /** The words go to places 0 and 1; the one at TO is there to be written over. */
  private static NineValues holding(String... words) {
    NineValues x = Check.holding(words);
    Check.write(x, TO, "ZWZ");
    return x;
  }

  static String fill(int n, int value) {
    NineValues x = holding();
    x.fill(TO, n, value);
    return Check.read(x, TO);
  }

  static String number(int n, long v) {
    NineValues x = holding();
    x.number(TO, n, v);
    return Check.read(x, TO);
  }

  static long numberOf(boolean signed, String a) {
    return holding(a).numberOf(0, signed);
  }

  static String operate(int operation, boolean signed, String a, String b) {
    NineValues x = holding(a, b);
    x.operate(operation, signed, 0, 1, TO);
    return Check.read(x, TO);
  }

  static String change(int kind, String a) {
    NineValues x = holding(a);
    x.change(kind, 0, TO);
    return Check.read(x, TO);
  }

  static String shift(int kind, int n, int value, String a) {
    NineValues x = holding(a);
    x.shift(kind, n, value, 0, TO);
    return Check.read(x, TO);
  }

  static String bring(boolean signed, int n, String a) {
    NineValues x = holding(a);
    x.bring(signed, n, 0, TO);
    return Check.read(x, TO);
  }

  static String cut(int k, int n, String a) {
    NineValues x = holding(a);
    x.cut(k, n, 0, TO);
    return Check.read(x, TO);
  }

  static int compare(boolean signed, String a, String b) {
    return holding(a, b).compare(signed, 0, 1);
  }

  static boolean same(boolean matched, String a, String b) {
    return holding(a, b).same(matched, 0, 1);
  }

  static char all(int kind, String a) {
    return Check.LETTERS.charAt(holding(a).all(kind, 0));
  }

  static int edge(char before, char now) {
    return new NineValues().edge(Check.LETTERS.indexOf(before), Check.LETTERS.indexOf(now));
  }
}
