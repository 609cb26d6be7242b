import java.math.BigInteger;
import java.util.Arrays;

/**
 * The document told a second time, in other means than NineValues uses: words are texts of Check.LETTERS with the
 * last element first, values come from Tables, and numbers know no bound.
 */
final class Model {
  private static final BigInteger TWO_TO_64 = BigInteger.ONE.shiftLeft(64);

  private final String[] words = new String[16];

  Model() {
    Arrays.fill(words, "");
  }

  String word(int place) {
    if (place < 0 || place > 15) {
      throw new IndexOutOfBoundsException();
    }
    return words[place];
  }

  private static void allow(boolean holds) {
    if (!holds) {
      throw new IllegalArgumentException();
    }
  }

  private static boolean between(int n, int least, int most) {
    return n >= least && n <= most;
  }

  private int indexOf(int place, int k) {
    int length = word(place).length();
    if (!between(k, 0, length - 1)) {
      throw new IndexOutOfBoundsException();
    }
    return length - 1 - k;
  }

  void fill(int to, int n, int value) {
    word(to);
    allow(between(n, 0, 64) && between(value, 0, 8));
    words[to] = String.valueOf(Check.LETTERS.charAt(value)).repeat(n);
  }

  void put(int to, int k, int value) {
    int index = indexOf(to, k);
    allow(between(value, 0, 8));
    words[to] = words[to].substring(0, index) + Check.LETTERS.charAt(value) + words[to].substring(index + 1);
  }

  int get(int a, int k) {
    int index = indexOf(a, k);
    return Check.LETTERS.indexOf(words[a].charAt(index));
  }

  int length(int a) {
    return word(a).length();
  }

  void number(int to, int n, long v) {
    word(to);
    allow(between(n, 0, 64));
    words[to] = bits(BigInteger.valueOf(v), n);
  }

  long numberOf(int a, boolean signed) {
    if (!clear(word(a))) {
      throw new IllegalStateException();
    }
    return value(words[a], signed).longValue();
  }

  private static String bits(BigInteger v, int n) {
    String digits = v.mod(TWO_TO_64).add(TWO_TO_64).toString(2);
    return digits.substring(digits.length() - n);
  }

  private static boolean clear(String word) {
    return word.matches("[01LH]*");
  }

  private static BigInteger value(String word, boolean signed) {
    String digits = word.replace('L', '0').replace('H', '1');
    BigInteger v = new BigInteger("0" + digits, 2);
    return signed && digits.startsWith("1") ? v.subtract(BigInteger.ONE.shiftLeft(digits.length())) : v;
  }

  void operate(int operation, boolean signed, int a, int b, int to) {
    String p = word(a);
    String q = word(b);
    word(to);
    allow(between(operation, 0, 13));
    if (operation <= 6) {
      allow(p.length() == q.length());
      words[to] = pairwise(operation, p, q);
    } else if (operation == 13) {
      allow(p.length() + q.length() <= 64);
      words[to] = p + q;
    } else {
      words[to] = reckoned(operation, signed, p, q);
    }
  }

  private static String pairwise(int operation, String p, String q) {
    StringBuilder answer = new StringBuilder();
    for (int i = 0; i < p.length(); i++) {
      answer.append(Tables.operation(operation, p.charAt(i), q.charAt(i)));
    }
    return answer.toString();
  }

  private static String reckoned(int operation, boolean signed, String p, String q) {
    int[] lengths = {Math.max(p.length(), q.length()), p.length() + q.length(), p.length(), q.length()};
    int n = lengths[new int[] {0, 0, 1, 2, 3, 3}[operation - 7]];
    allow(n <= 64);
    if (p.isEmpty() || q.isEmpty()) {
      return "";
    }
    if (!clear(p) || !clear(q)) {
      return "X".repeat(n);
    }
    BigInteger v = value(p, signed);
    BigInteger w = value(q, signed);
    if (operation >= 10 && w.signum() == 0) {
      throw new ArithmeticException();
    }
    switch (operation) {
      case 7:
        return bits(v.add(w), n);
      case 8:
        return bits(v.subtract(w), n);
      case 9:
        return bits(v.multiply(w), n);
      case 10:
        return bits(v.divide(w), n);
      case 11:
        return bits(v.remainder(w), n);
      default:
        // BigInteger's own modulus is for w above 0: below 0 both signs are turned, and the answer's turned back.
        return bits(w.signum() > 0 ? v.mod(w) : v.negate().mod(w.negate()).negate(), n);
    }
  }

  void change(int kind, int a, int to) {
    String p = word(a);
    word(to);
    allow(between(kind, 0, 6));
    if (kind <= 4) {
      StringBuilder answer = new StringBuilder();
      for (char value : p.toCharArray()) {
        answer.append(Tables.one(Tables.CHANGED[kind], value));
      }
      words[to] = answer.toString();
    } else if (!clear(p)) {
      words[to] = "X".repeat(p.length());
    } else {
      BigInteger v = value(p, true);
      words[to] = bits(kind == 5 ? v.negate() : v.abs(), p.length());
    }
  }

  void shift(int kind, int n, int value, int a, int to) {
    String p = word(a);
    word(to);
    allow(between(kind, 0, 4) && between(value, 0, 8) && between(n, -1000, 1000));
    char incoming = Check.LETTERS.charAt(value);
    int way = kind;
    if (n < 0) {
      way = new int[] {1, 0, 0, 4, 3}[kind];
      incoming = kind == 2 ? '0' : incoming;
    }
    for (int i = 0; i < Math.abs(n) && !p.isEmpty(); i++) {
      p = step(way, incoming, p);
    }
    words[to] = p;
  }

  private static String step(int way, char incoming, String p) {
    String right = p.substring(1);
    String left = p.substring(0, p.length() - 1);
    char first = p.charAt(0);
    char last = p.charAt(p.length() - 1);
    return new String[] {right + incoming, incoming + left, first + left, right + first, last + left}[way];
  }

  void bring(boolean signed, int n, int a, int to) {
    String p = word(a);
    word(to);
    allow(between(n, 0, 64));
    String more = signed && !p.isEmpty() ? p.substring(0, 1) : "0";
    String longer = more.repeat(64) + p;
    words[to] = longer.substring(longer.length() - n);
  }

  void cut(int k, int n, int a, int to) {
    int length = word(a).length();
    word(to);
    if (!between(k, 0, length) || n < 0 || (long) k + n > length) {
      throw new IndexOutOfBoundsException();
    }
    words[to] = words[a].substring(length - k - n, length - k);
  }

  int compare(boolean signed, int a, int b) {
    String p = word(a);
    String q = word(b);
    if (p.isEmpty() || q.isEmpty() || !clear(p) || !clear(q)) {
      return 2;
    }
    return value(p, signed).compareTo(value(q, signed));
  }

  boolean same(boolean matched, int a, int b) {
    String p = word(a);
    String q = word(b);
    if (!matched || p.length() != q.length()) {
      return p.equals(q);
    }
    for (int i = 0; i < p.length(); i++) {
      if (Tables.two(Tables.MATCHED, p.charAt(i), q.charAt(i)) == '0') {
        return false;
      }
    }
    return true;
  }

  int all(int kind, int a) {
    String p = word(a);
    allow(between(kind, 0, 3));
    char value = "100Z".charAt(kind);
    for (int i = p.length() - 1; i >= 0; i--) {
      value = Tables.operation(new int[] {1, 2, 3, 0}[kind], value, p.charAt(i));
    }
    return Check.LETTERS.indexOf(value);
  }

  int edge(int before, int now) {
    allow(between(before, 0, 8) && between(now, 0, 8));
    String pair = "" + Check.LETTERS.charAt(before) + Check.LETTERS.charAt(now);
    return pair.matches("[0L][1H]") ? 1 : pair.matches("[1H][0L]") ? -1 : 0;
  }
}
