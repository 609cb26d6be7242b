/** Promises 11 and 12: bring, cut. */
public final class BringAndCutTest {
  public static void main(String[] args) {
    bringKnown();
    bringEveryLength();
    bringRefuses();
    cutEveryPart();
    cutRefuses();
    Check.end();
  }

  private static void brought(boolean signed, int n, String a, String want) {
    NineValues x = Check.holding(a, "ZWZ");
    x.bring(signed, n, 0, 1);
    Check.holds("bring " + a + " to " + n + (signed ? " signed" : ""), x, a, want);
    x.bring(signed, n, 0, 0);
    Check.holds("bring in place " + a + " to " + n + (signed ? " signed" : ""), x, want);
  }

  private static void bringKnown() {
    brought(false, 5, "1Z", "0001Z");
    brought(true, 5, "1Z", "1111Z");
    brought(true, 5, "HZ", "HHHHZ");
    brought(true, 3, "-", "---");
    brought(true, 3, "U", "UUU");
    brought(false, 2, "UX01Z", "1Z");
    brought(true, 2, "UX01Z", "1Z");
    brought(true, 5, "UX01Z", "UX01Z");
    brought(false, 4, "", "0000");
    brought(true, 4, "", "0000");
    brought(true, 64, "", "0".repeat(64));
    brought(true, 0, "UX01Z", "");
    brought(false, 0, "", "");
  }

  private static void bringEveryLength() {
    String word = Check.LETTERS.repeat(8).substring(1, 65);
    for (int n = 0; n <= 64; n++) {
      String lowest = word.substring(64 - n);
      brought(false, n, word, lowest);
      if (n > 0) {
        brought(false, 64, lowest, "0".repeat(64 - n) + lowest);
        brought(true, 64, lowest, lowest.substring(0, 1).repeat(64 - n) + lowest);
      }
    }
  }

  private static void bringRefuses() {
    NineValues x = Check.holding("0Z11", "ZWZ");
    for (int place : Check.NO_PLACES) {
      Check.outOfBounds("bring place " + place, () -> x.bring(false, 4, place, 1));
      Check.outOfBounds("bring into place " + place, () -> x.bring(true, 4, 0, place));
      Check.outOfBounds("bring place " + place + ", first named", () -> x.bring(false, 65, place, 1));
      Check.outOfBounds("bring into place " + place + ", first named", () -> x.bring(true, -1, 0, place));
    }
    for (int n : Check.NO_LENGTHS) {
      Check.illegalArgument("bring to " + n, () -> x.bring(false, n, 0, 1));
      Check.illegalArgument("bring signed to " + n, () -> x.bring(true, n, 0, 1));
    }
    Check.holds("after brings that threw", x, "0Z11", "ZWZ");
  }

  private static void cutEveryPart() {
    for (String word : new String[] {"", "Z", "UX01ZWLH-", Check.LETTERS.repeat(8).substring(0, 64)}) {
      int length = word.length();
      for (int k = 0; k <= length; k++) {
        for (int n = 0; k + n <= length; n++) {
          NineValues x = Check.holding(word, "ZWZ");
          x.cut(k, n, 0, 1);
          String want = word.substring(length - k - n, length - k);
          Check.holds("cut " + n + " from " + k + " on of " + word, x, word, want);
          x.cut(k, n, 0, 0);
          Check.holds("cut in place " + n + " from " + k + " on of " + word, x, want);
        }
      }
    }
  }

  private static void cutRefuses() {
    NineValues x = Check.holding("0Z11", "ZWZ");
    for (int place : Check.NO_PLACES) {
      Check.outOfBounds("cut of place " + place, () -> x.cut(0, 1, place, 1));
      Check.outOfBounds("cut into place " + place, () -> x.cut(0, 1, 0, place));
    }
    int min = Integer.MIN_VALUE;
    int max = Integer.MAX_VALUE;
    int[][] parts = {
      {-1, 0}, {-1, 1}, {-1, 2}, {5, 0}, {5, -1}, {0, 5}, {1, 4}, {4, 1}, {0, -1}, {2, -2}, {4, -4},
      {0, max}, {1, max}, {4, max}, {max, max}, {max, 1}, {max, 0}, {max, min}, {min, min}, {min, max}, {0, min},
      {4, min}, {min, 0}, {-1, max}, {0, 64}
    };
    for (int[] part : parts) {
      Check.outOfBounds("cut " + part[1] + " from " + part[0] + " on", () -> x.cut(part[0], part[1], 0, 1));
    }
    Check.outOfBounds("cut of an empty word", () -> x.cut(0, 1, 2, 1));
    Check.outOfBounds("cut behind an empty word", () -> x.cut(1, 0, 2, 1));
    Check.holds("after cuts that threw", x, "0Z11", "ZWZ", "");
  }
}
