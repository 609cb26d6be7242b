/**
 * Sixteen places that hold words of wires with nine values. The numbered promises that it keeps
 * stand in ../shared/DOC.md, and the terms used here are explained there.
 */
public final class NineValues {
  private static final int PLACES = 16;
  private static final int LONGEST = 64;
  private static final int FARTHEST = 1000;
  private static final long BIT_63 = 1L << 63;

  private static final int U = 0;
  private static final int X = 1;
  private static final int ZERO = 2;
  private static final int ONE = 3;
  private static final int Z = 4;
  private static final int W = 5;
  private static final int L = 6;
  private static final int H = 7;
  private static final int FREE = 8;

  private static final int TOGETHER = 0;
  private static final int AND = 1;
  private static final int OR = 2;
  private static final int XOR = 3;
  private static final int NOT_AND = 4;
  private static final int NOT_OR = 5;
  private static final int NOT_XOR = 6;
  private static final int SUM = 7;
  private static final int DIFFERENCE = 8;
  private static final int PRODUCT = 9;
  private static final int QUOTIENT = 10;
  private static final int REMAINDER = 11;
  private static final int MODULUS = 12;
  private static final int BEHIND = 13;

  private static final int STRIP = 0;
  private static final int STRIP_BUT_Z = 1;
  private static final int STRIP_BUT_U = 2;
  private static final int STRIP_TO_ZERO = 3;
  private static final int TURN = 4;
  private static final int NEGATE = 5;
  private static final int TAKE_SIZE = 6;

  private static final int LEFT = 0;
  private static final int RIGHT = 1;
  private static final int RIGHT_WITH_LAST = 2;
  private static final int ROUND_LEFT = 3;
  private static final int ROUND_RIGHT = 4;

  private static final int ALL_AND = 0;
  private static final int ALL_OR = 1;
  private static final int ALL_XOR = 2;
  private static final int ALL_TOGETHER = 3;

  private static final int NOT_COMPARABLE = 2;

  private final Word[] places = new Word[PLACES];

  /** Every answer is built here first, since the place that it goes to may be one that it is made of. */
  private final Word answer = new Word();

  public NineValues() {
    for (int place = 0; place < PLACES; place++) {
      places[place] = new Word();
    }
  }

  public void fill(int to, int n, int value) throws IndexOutOfBoundsException, IllegalArgumentException {
    requirePlace(to);
    requireLength(n);
    requireValue(value);
    places[to].become(n, value);
  }

  public void put(int to, int k, int value) throws IndexOutOfBoundsException, IllegalArgumentException {
    requireElement(to, k);
    requireValue(value);
    places[to].elements[k] = value;
  }

  public int get(int a, int k) throws IndexOutOfBoundsException {
    requireElement(a, k);
    return places[a].elements[k];
  }

  public int length(int a) throws IndexOutOfBoundsException {
    requirePlace(a);
    return places[a].size;
  }

  public void number(int to, int n, long v) throws IndexOutOfBoundsException, IllegalArgumentException {
    requirePlace(to);
    requireLength(n);
    places[to].hold(n, v);
  }

  public long numberOf(int a, boolean signed) throws IndexOutOfBoundsException, IllegalStateException {
    requirePlace(a);
    if (!places[a].isClear()) {
      throw new IllegalStateException("the word is not clear");
    }
    return places[a].asLong(signed);
  }

  public void operate(int operation, boolean signed, int a, int b, int to)
      throws IndexOutOfBoundsException, IllegalArgumentException, ArithmeticException {
    requirePlace(a);
    requirePlace(b);
    requirePlace(to);
    if (operation < TOGETHER || operation > BEHIND) {
      throw new IllegalArgumentException("no such operation");
    }
    if (operation <= NOT_XOR) {
      joinElements(operation, places[a], places[b]);
    } else if (operation == BEHIND) {
      setBehind(places[a], places[b]);
    } else {
      calculate(operation, signed, places[a], places[b]);
    }
    places[to].copy(answer);
  }

  public void change(int kind, int a, int to) throws IndexOutOfBoundsException, IllegalArgumentException {
    requirePlace(a);
    requirePlace(to);
    if (kind < STRIP || kind > TAKE_SIZE) {
      throw new IllegalArgumentException("no such kind of change");
    }
    if (kind <= TURN) {
      changeElements(kind, places[a]);
    } else {
      changeNumber(kind, places[a]);
    }
    places[to].copy(answer);
  }

  public void shift(int kind, int n, int value, int a, int to)
      throws IndexOutOfBoundsException, IllegalArgumentException {
    requirePlace(a);
    requirePlace(to);
    requireValue(value);
    if (kind < LEFT || kind > ROUND_RIGHT) {
      throw new IllegalArgumentException("no such kind of shift");
    }
    if (n < -FARTHEST || n > FARTHEST) {
      throw new IllegalArgumentException("a shift goes by -1000 to 1000");
    }
    moveBy(kind, n, value, places[a]);
    places[to].copy(answer);
  }

  public void bring(boolean signed, int n, int a, int to)
      throws IndexOutOfBoundsException, IllegalArgumentException {
    requirePlace(a);
    requirePlace(to);
    requireLength(n);
    Word word = places[a];
    answer.become(n, signed ? word.last() : ZERO);
    answer.lay(word, 0, Math.min(n, word.size), 0);
    places[to].copy(answer);
  }

  public void cut(int k, int n, int a, int to) throws IndexOutOfBoundsException {
    requirePlace(a);
    requirePlace(to);
    Word word = places[a];
    // The sum of k and n could wrap round: so n is held against what is left behind k.
    if (k < 0 || k > word.size || n < 0 || n > word.size - k) {
      throw new IndexOutOfBoundsException("the word has no such elements");
    }
    answer.size = n;
    answer.lay(word, k, n, 0);
    places[to].copy(answer);
  }

  public int compare(boolean signed, int a, int b) throws IndexOutOfBoundsException {
    requirePlace(a);
    requirePlace(b);
    if (!places[a].counts() || !places[b].counts()) {
      return NOT_COMPARABLE;
    }
    long p = places[a].asLong(signed);
    long q = places[b].asLong(signed);
    if (p == q) {
      return 0;
    }
    return (signed ? p < q : isBelowUnsigned(p, q)) ? -1 : 1;
  }

  public boolean same(boolean matched, int a, int b) throws IndexOutOfBoundsException {
    requirePlace(a);
    requirePlace(b);
    Word first = places[a];
    Word second = places[b];
    if (first.size != second.size) {
      return false;
    }
    for (int k = 0; k < first.size; k++) {
      int p = first.elements[k];
      int q = second.elements[k];
      if (matched ? !Wire.goTogether(p, q) : p != q) {
        return false;
      }
    }
    return true;
  }

  public int all(int kind, int a) throws IndexOutOfBoundsException, IllegalArgumentException {
    requirePlace(a);
    switch (kind) {
      case ALL_AND:
        return places[a].joined(AND, ONE);
      case ALL_OR:
        return places[a].joined(OR, ZERO);
      case ALL_XOR:
        return places[a].joined(XOR, ZERO);
      case ALL_TOGETHER:
        return places[a].joined(TOGETHER, Z);
      default:
        throw new IllegalArgumentException("no such kind of joining");
    }
  }

  public int edge(int before, int now) throws IllegalArgumentException {
    requireValue(before);
    requireValue(now);
    if (Wire.isLow(before) && Wire.isHigh(now)) {
      return 1;
    }
    return Wire.isHigh(before) && Wire.isLow(now) ? -1 : 0;
  }

  private static void requirePlace(int place) {
    if (place < 0 || place >= PLACES) {
      throw new IndexOutOfBoundsException("no such place");
    }
  }

  private void requireElement(int place, int k) {
    requirePlace(place);
    if (k < 0 || k >= places[place].size) {
      throw new IndexOutOfBoundsException("no such element");
    }
  }

  private static void requireLength(int n) {
    if (n < 0 || n > LONGEST) {
      throw new IllegalArgumentException("a length is 0 to 64");
    }
  }

  private static void requireValue(int value) {
    if (value < U || value > FREE) {
      throw new IllegalArgumentException("no such value");
    }
  }

  private void joinElements(int operation, Word a, Word b) {
    if (a.size != b.size) {
      throw new IllegalArgumentException("the words have not the same length");
    }
    answer.size = a.size;
    for (int k = 0; k < a.size; k++) {
      answer.elements[k] = Wire.join(operation, a.elements[k], b.elements[k]);
    }
  }

  private void setBehind(Word a, Word b) {
    requireLength(a.size + b.size);
    answer.size = a.size + b.size;
    answer.lay(b, 0, b.size, 0);
    answer.lay(a, 0, a.size, b.size);
  }

  private void calculate(int operation, boolean signed, Word a, Word b) {
    int n = lengthOfResult(operation, a.size, b.size);
    requireLength(n);
    if (!a.counts() || !b.counts()) {
      answer.become(a.size == 0 || b.size == 0 ? 0 : n, X);
      return;
    }
    long p = a.asLong(signed);
    long q = b.asLong(signed);
    if (operation < QUOTIENT) {
      answer.hold(n, sumOrProduct(operation, p, q));
      return;
    }
    if (q == 0) {
      throw new ArithmeticException("division by zero");
    }
    answer.hold(n, signed ? divideSigned(operation, p, q) : divideUnsigned(operation, p, q));
  }

  private static int lengthOfResult(int operation, int a, int b) {
    switch (operation) {
      case SUM:
      case DIFFERENCE:
        return Math.max(a, b);
      case PRODUCT:
        return a + b;
      case QUOTIENT:
        return a;
      default:
        return b;
    }
  }

  /** The lowest 64 bits are the same signed and unsigned, and no answer is longer. */
  private static long sumOrProduct(int operation, long p, long q) {
    switch (operation) {
      case SUM:
        return p + q;
      case DIFFERENCE:
        return p - q;
      default:
        return p * q;
    }
  }

  /** The divisor q is not 0. */
  private static long divideSigned(int operation, long p, long q) {
    switch (operation) {
      case QUOTIENT:
        return p / q;
      case REMAINDER:
        return p % q;
      default:
        return Math.floorMod(p, q);
    }
  }

  /** The divisor q is not 0. Without signs the modulus is the remainder. */
  private static long divideUnsigned(int operation, long p, long q) {
    long quotient = quotientUnsigned(p, q);
    return operation == QUOTIENT ? quotient : p - quotient * q;
  }

  /** The divisor q is not 0. */
  private static long quotientUnsigned(long p, long q) {
    if (q <= 0L) {
      // From 2^63 on, q goes into no number of 64 bits twice.
      return isBelowUnsigned(p, q) ? 0L : 1L;
    }
    // Half of p has no bit 63, so that it can be divided with signs; twice that quotient is at most 1 too small.
    long quotient = (p >>> 1) / q << 1;
    return isBelowUnsigned(p - quotient * q, q) ? quotient : quotient + 1L;
  }

  /** Numbers from 2^63 on are longs below 0: with bit 63 turned in both, all stand in their order. */
  private static boolean isBelowUnsigned(long p, long q) {
    return (p ^ BIT_63) < (q ^ BIT_63);
  }

  private void changeElements(int kind, Word word) {
    answer.size = word.size;
    for (int k = 0; k < word.size; k++) {
      int value = word.elements[k];
      answer.elements[k] = kind == TURN ? Wire.not(value) : Wire.strip(kind, value);
    }
  }

  private void changeNumber(int kind, Word word) {
    if (!word.isClear()) {
      answer.become(word.size, X);
      return;
    }
    long v = word.asLong(true);
    answer.hold(word.size, kind == NEGATE || v < 0 ? -v : v);
  }

  private void moveBy(int kind, int n, int value, Word word) {
    switch (kind) {
      case LEFT:
        move(n, value, word);
        break;
      case RIGHT:
        move(-n, value, word);
        break;
      case RIGHT_WITH_LAST:
        move(-n, n < 0 ? ZERO : word.last(), word);
        break;
      case ROUND_LEFT:
        turnRound(n, word);
        break;
      default:
        turnRound(-n, word);
    }
  }

  /** By left below 0 the elements go to the right. */
  private void move(int left, int incoming, Word word) {
    answer.become(word.size, incoming);
    for (int k = 0; k < word.size; k++) {
      int from = k - left;
      if (from >= 0 && from < word.size) {
        answer.elements[k] = word.elements[from];
      }
    }
  }

  /** By left below 0 the elements go to the right. */
  private void turnRound(int left, Word word) {
    answer.size = word.size;
    for (int k = 0; k < word.size; k++) {
      answer.elements[k] = word.elements[Math.floorMod(k - left, word.size)];
    }
  }

  /** What is told of single values. */
  private static final class Wire {
    static boolean isLow(int value) {
      return value == ZERO || value == L;
    }

    static boolean isHigh(int value) {
      return value == ONE || value == H;
    }

    static boolean isClear(int value) {
      return isLow(value) || isHigh(value);
    }

    static int join(int operation, int p, int q) {
      switch (operation) {
        case TOGETHER:
          return drive(p, q);
        case AND:
          return and(p, q);
        case OR:
          return or(p, q);
        case XOR:
          return xor(p, q);
        case NOT_AND:
          return not(and(p, q));
        case NOT_OR:
          return not(or(p, q));
        default:
          return not(xor(p, q));
      }
    }

    static int drive(int p, int q) {
      if (p == U || q == U) {
        return U;
      }
      if (p == X || p == FREE || q == X || q == FREE) {
        return X;
      }
      if (p == Z || p == q) {
        return q;
      }
      if (q == Z) {
        return p;
      }
      boolean pIsStrong = p == ZERO || p == ONE;
      boolean qIsStrong = q == ZERO || q == ONE;
      if (pIsStrong && qIsStrong) {
        return X;
      }
      if (pIsStrong) {
        return p;
      }
      return qIsStrong ? q : W;
    }

    static int and(int p, int q) {
      if (isLow(p) || isLow(q)) {
        return ZERO;
      }
      if (p == U || q == U) {
        return U;
      }
      return isHigh(p) && isHigh(q) ? ONE : X;
    }

    static int or(int p, int q) {
      if (isHigh(p) || isHigh(q)) {
        return ONE;
      }
      if (p == U || q == U) {
        return U;
      }
      return isLow(p) && isLow(q) ? ZERO : X;
    }

    static int xor(int p, int q) {
      if (p == U || q == U) {
        return U;
      }
      if (!isClear(p) || !isClear(q)) {
        return X;
      }
      return isHigh(p) == isHigh(q) ? ZERO : ONE;
    }

    static int not(int value) {
      if (isClear(value)) {
        return isLow(value) ? ONE : ZERO;
      }
      return value == U ? U : X;
    }

    static int strip(int kind, int value) {
      if (isClear(value)) {
        return isLow(value) ? ZERO : ONE;
      }
      if (kind == STRIP_BUT_Z && value == Z || kind == STRIP_BUT_U && value == U) {
        return value;
      }
      return kind == STRIP_TO_ZERO ? ZERO : X;
    }

    static boolean goTogether(int p, int q) {
      return p == FREE || q == FREE || isLow(p) && isLow(q) || isHigh(p) && isHigh(q);
    }
  }

  /** A word: those of its elements that stand below its size count. */
  private static final class Word {
    private int size = 0;
    private final int[] elements = new int[LONGEST];

    void become(int n, int value) {
      size = n;
      for (int k = 0; k < n; k++) {
        elements[k] = value;
      }
    }

    void hold(int n, long v) {
      size = n;
      for (int k = 0; k < n; k++) {
        elements[k] = (v >>> k & 1L) == 0L ? ZERO : ONE;
      }
    }

    void copy(Word other) {
      size = other.size;
      lay(other, 0, other.size, 0);
    }

    /** Lays n elements of another word, from its element k on, over those of this one from at on. */
    void lay(Word other, int k, int n, int at) {
      for (int i = 0; i < n; i++) {
        elements[at + i] = other.elements[k + i];
      }
    }

    /** The element that a longer word repeats: an empty word has none, so it gives ZERO. */
    int last() {
      return size == 0 ? ZERO : elements[size - 1];
    }

    boolean isClear() {
      for (int k = 0; k < size; k++) {
        if (!Wire.isClear(elements[k])) {
          return false;
        }
      }
      return true;
    }

    /** Whether it can be reckoned with: an empty word is clear, but makes answers empty. */
    boolean counts() {
      return size > 0 && isClear();
    }

    /** The number of a clear word. */
    long asLong(boolean signed) {
      long v = 0L;
      // Signed, all bits above the last element are as it is: that gives its weight the other sign.
      int bits = signed ? LONGEST : size;
      for (int k = 0; k < bits; k++) {
        int value = k < size ? elements[k] : last();
        if (Wire.isHigh(value)) {
          v |= 1L << k;
        }
      }
      return v;
    }

    int joined(int operation, int start) {
      int value = start;
      for (int k = 0; k < size; k++) {
        value = Wire.join(operation, value, elements[k]);
      }
      return value;
    }
  }
}
