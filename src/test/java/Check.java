import java.util.ArrayList;
import java.util.List;
import java.util.Objects;
import java.util.function.Consumer;

/** Holds answers against those that are due, prints each that is not, and ends the test with code 1 if one was not. */
final class Check {
  /** Values by their letters: the letter at index v is value v. */
  static final String LETTERS = "UX01ZWLH-";

  /** Ints that are no place, each near to one or as far from one as can be. */
  static final int[] NO_PLACES = {-1, 16, 17, 32, Integer.MIN_VALUE, Integer.MAX_VALUE};

  /** Ints that are no value. */
  static final int[] NO_VALUES = {-1, 9, 10, Integer.MIN_VALUE, Integer.MAX_VALUE};

  /** Ints that are no length. */
  static final int[] NO_LENGTHS = {-1, 65, 66, Integer.MIN_VALUE, Integer.MAX_VALUE};

  private static int right = 0;
  private static int wrong = 0;

  /** What each wrong answer is told under. */
  private static String heading = "";

  private Check() {}

  static void due(String what, Object got, Object want) {
    if (Objects.equals(got, want)) {
      right++;
    } else {
      wrong++;
      System.out.println(heading + what + " answered " + got + ", due is " + want);
    }
  }

  static void under(String text) {
    heading = text;
  }

  static int answers() {
    return right + wrong;
  }

  /** What a call throws: the class itself is held against the one that is due, not one below it. */
  static void thrown(String what, Class<? extends RuntimeException> want, Runnable call) {
    Class<?> got = null;
    try {
      call.run();
    } catch (RuntimeException e) {
      got = e.getClass();
    }
    due(what + " throws", got, want);
  }

  static void outOfBounds(String what, Runnable call) {
    thrown(what, IndexOutOfBoundsException.class, call);
  }

  static void illegalArgument(String what, Runnable call) {
    thrown(what, IllegalArgumentException.class, call);
  }

  /** That a call on a new object that holds these words throws just this, and changes no place. */
  static void refused(
      String what, Class<? extends RuntimeException> want, Consumer<NineValues> call, String... words) {
    NineValues x = holding(words);
    List<String> before = readAll(x);
    thrown(what, want, () -> call.accept(x));
    due(what + " leaves all places", readAll(x), before);
  }

  /** A new object whose first places hold these words, written as letters with the last element first. */
  static NineValues holding(String... words) {
    NineValues x = new NineValues();
    for (int place = 0; place < words.length; place++) {
      write(x, place, words[place]);
    }
    return x;
  }

  static void write(NineValues x, int place, String word) {
    int n = word.length();
    x.fill(place, n, 0);
    for (int k = 0; k < n; k++) {
      x.put(place, k, LETTERS.indexOf(word.charAt(n - 1 - k)));
    }
  }

  static String read(NineValues x, int place) {
    StringBuilder word = new StringBuilder();
    for (int k = x.length(place) - 1; k >= 0; k--) {
      word.append(LETTERS.charAt(x.get(place, k)));
    }
    return word.toString();
  }

  static List<String> readAll(NineValues x) {
    List<String> words = new ArrayList<>();
    for (int place = 0; place < 16; place++) {
      words.add(read(x, place));
    }
    return words;
  }

  /** That the first places of an object hold these words. */
  static void holds(String what, NineValues x, String... words) {
    for (int place = 0; place < words.length; place++) {
      due(what + ": place " + place, read(x, place), words[place]);
    }
  }

  static void end() {
    System.out.println(right + " answers as due, " + wrong + " not");
    if (wrong != 0 || right == 0) {
      System.exit(1);
    }
  }
}
