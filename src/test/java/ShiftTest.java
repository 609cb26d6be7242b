/** Promise 10: shift. */
public final class ShiftTest {
  private static final int[] WAYS = {
    0, 1, 2, 3, 4, 5, 6, 9, 10, 11, 63, 64, 65, 127, 128, 999, 1000
  };

  public static void main(String[] args) {
    known();
    stepByStep();
    emptyWords();
    intoItsOwnPlace();
    refuses();
    Check.end();
  }

  private static String answer(int kind, int n, int value, String a) {
    NineValues x = Check.holding(a, "ZWZ");
    x.shift(kind, n, value, 0, 1);
    Check.holds("shift leaves its word", x, a);
    return Check.read(x, 1);
  }

  private static void due(int kind, int n, int value, String a, String want) {
    Check.due("shift " + kind + " of " + a + " by " + n, answer(kind, n, value, a), want);
  }

  private static void known() {
    due(0, 2, 5, "UX01Z", "01ZWW");
    due(0, -2, 5, "UX01Z", "WWUX0");
    due(1, 2, 5, "UX01Z", "WWUX0");
    due(1, -2, 5, "UX01Z", "01ZWW");
    due(2, 2, 5, "HX01Z", "HHHX0");
    due(2, -2, 5, "HX01Z", "01Z00");
    due(3, 2, 5, "UX01Z", "01ZUX");
    due(3, -2, 5, "UX01Z", "1ZUX0");
    due(4, 2, 5, "UX01Z", "1ZUX0");
    due(4, -2, 5, "UX01Z", "01ZUX");
    due(0, 5, 8, "UX01Z", "-----");
    due(1, 1000, 8, "UX01Z", "-----");
    due(2, 1000, 8, "UX01Z", "UUUUU");
    due(2, -1000, 8, "UX01Z", "00000");
    due(3, 1001 - 1, 8, "UX01Z", "UX01Z");
    due(4, -999, 8, "UX01Z", "ZUX01");
  }

  /** One element further, as text. */
  private static String step(int kind, char value, String a) {
    int n = a.length();
    switch (kind) {
      case 0:
        return a.substring(1) + value;
      case 1:
        return value + a.substring(0, n - 1);
      case 2:
        return a.charAt(0) + a.substring(0, n - 1);
      case 3:
        return a.substring(1) + a.charAt(0);
      default:
        return a.charAt(n - 1) + a.substring(0, n - 1);
    }
  }

  private static String steps(int kind, int n, char value, String a) {
    String word = a;
    for (int i = 0; i < n; i++) {
      word = step(kind, value, word);
    }
    return word;
  }

  private static void stepByStep() {
    String[] words = {"Z", "1L", "HX01Z", "WUX01ZWLH-", (Check.LETTERS + "1Z0X").repeat(5).substring(1)};
    int[] otherWay = {1, 0, 0, 4, 3};
    for (String word : words) {
      for (int kind = 0; kind <= 4; kind++) {
        for (int n : WAYS) {
          int value = n % 9;
          char letter = Check.LETTERS.charAt(value);
          due(kind, n, value, word, steps(kind, n, letter, word));
          due(kind, -n, value, word, steps(otherWay[kind], n, kind == 2 ? '0' : letter, word));
        }
      }
    }
  }

  private static void emptyWords() {
    for (int kind = 0; kind <= 4; kind++) {
      for (int n : WAYS) {
        due(kind, n, 3, "", "");
        due(kind, -n, 3, "", "");
      }
    }
  }

  private static void intoItsOwnPlace() {
    for (int kind = 0; kind <= 4; kind++) {
      for (int n = -3; n <= 3; n++) {
        NineValues x = Check.holding("HX01Z");
        x.shift(kind, n, 8, 0, 0);
        Check.holds("shift " + kind + " by " + n + " in place", x, answer(kind, n, 8, "HX01Z"));
      }
    }
  }

  private static void refuses() {
    NineValues x = Check.holding("0Z11", "ZWZ");
    for (int place : Check.NO_PLACES) {
      Check.outOfBounds("shift of place " + place, () -> x.shift(0, 1, 1, place, 1));
      Check.outOfBounds("shift into place " + place, () -> x.shift(4, 1, 1, 0, place));
      Check.outOfBounds("shift of place " + place + ", first named", () -> x.shift(5, 1001, 9, place, 1));
      Check.outOfBounds("shift into place " + place + ", first named", () -> x.shift(-1, 1, 1, 0, place));
    }
    for (int kind : new int[] {-1, 5, 6, Integer.MIN_VALUE, Integer.MAX_VALUE}) {
      Check.illegalArgument("shift " + kind, () -> x.shift(kind, 1, 1, 0, 1));
    }
    for (int kind = 0; kind <= 4; kind++) {
      int k = kind;
      for (int value : Check.NO_VALUES) {
        Check.illegalArgument("shift " + k + " with " + value, () -> x.shift(k, 1, value, 0, 1));
        Check.illegalArgument("shift " + k + " by 0 with " + value, () -> x.shift(k, 0, value, 0, 1));
        Check.illegalArgument("shift " + k + " of nothing with " + value, () -> x.shift(k, 1, value, 2, 1));
      }
      for (int n : new int[] {-1001, 1001, Integer.MIN_VALUE, Integer.MAX_VALUE}) {
        Check.illegalArgument("shift " + k + " by " + n, () -> x.shift(k, n, 1, 0, 1));
      }
    }
    Check.holds("after shifts that threw", x, "0Z11", "ZWZ", "");
  }
}
