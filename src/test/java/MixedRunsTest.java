import java.util.Random;
import java.util.function.Supplier;

/** Long mixed runs of calls, right and wrong ones: answers, and the words at the end, are held against the Model's. */
public final class MixedRunsTest {
  private static final int RUNS = 3000;

  /** So many that the reading of all places at the end stays below an object's 512 calls. */
  private static final int CALLS = 200;

  /** Few places, so that calls meet one another's words. */
  private static final int[] USED = {0, 1, 2, 15};

  private final Random random;
  private final NineValues x = new NineValues();
  private final Model model = new Model();

  private MixedRunsTest(long seed) {
    random = new Random(seed);
  }

  public static void main(String[] args) {
    for (int run = 0; run < RUNS; run++) {
      MixedRunsTest test = new MixedRunsTest(run);
      for (int call = 0; call < CALLS; call++) {
        test.call("run " + run + ", call " + call + ": ");
      }
      for (int place = 0; place < 16; place++) {
        Check.due("run " + run + ", place " + place, Check.read(test.x, place), test.model.word(place));
      }
    }
    Check.end();
  }

  private boolean rarely() {
    return random.nextInt(40) == 0;
  }

  private int one(int... of) {
    return of[random.nextInt(of.length)];
  }

  private int place() {
    return rarely() ? one(Check.NO_PLACES) : one(USED);
  }

  private int value() {
    if (rarely()) {
      return one(Check.NO_VALUES);
    }
    return random.nextBoolean() ? one(2, 3, 6, 7) : random.nextInt(9);
  }

  private int lengthOfWord() {
    if (rarely()) {
      return one(Check.NO_LENGTHS);
    }
    return random.nextBoolean() ? random.nextInt(9) : one(0, 1, 8, 31, 32, 33, 63, 64);
  }

  private int kind(int most) {
    return rarely() ? one(-1, most + 1, Integer.MIN_VALUE, Integer.MAX_VALUE) : random.nextInt(most + 1);
  }

  private int element(int place) {
    int length = place >= 0 && place < 16 ? model.length(place) : 0;
    return rarely() || length == 0 ? one(-1, length, 64, Integer.MAX_VALUE) : random.nextInt(length);
  }

  private long longNumber() {
    return random.nextLong() >> random.nextInt(64);
  }

  private int way() {
    return rarely() ? one(-1001, 1001, -1000, 1000, Integer.MIN_VALUE) : random.nextInt(21) - 10;
  }

  private static Object answerOf(Supplier<Object> call) {
    try {
      return call.get();
    } catch (RuntimeException e) {
      return e.getClass().getName();
    }
  }

  private static void hold(String what, Supplier<Object> call, Supplier<Object> want) {
    Check.due(what, answerOf(call), answerOf(want));
  }

  private static void holdDone(String what, Runnable call, Runnable want) {
    hold(what, () -> done(call), () -> done(want));
  }

  private static Object done(Runnable call) {
    call.run();
    return "nothing";
  }

  private void call(String where) {
    int a = place();
    int b = place();
    int to = place();
    boolean flag = random.nextBoolean();
    switch (random.nextInt(10)) {
      case 0:
      case 1:
        making(where, to);
        break;
      case 2:
      case 3:
      case 4:
        int operation = kind(13);
        holdDone(where + "operate(" + operation + ", " + flag + ", " + a + ", " + b + ", " + to + ")",
            () -> x.operate(operation, flag, a, b, to), () -> model.operate(operation, flag, a, b, to));
        break;
      case 5:
      case 6:
      case 7:
        changing(where, flag, a, to);
        break;
      default:
        asking(where, flag, a, b);
    }
  }

  private void making(String where, int to) {
    int n = lengthOfWord();
    int k = element(to);
    int value = value();
    long v = longNumber();
    switch (random.nextInt(4)) {
      case 0:
        holdDone(where + "fill(" + to + ", " + n + ", " + value + ")",
            () -> x.fill(to, n, value), () -> model.fill(to, n, value));
        break;
      case 1:
        holdDone(where + "number(" + to + ", " + n + ", " + v + ")",
            () -> x.number(to, n, v), () -> model.number(to, n, v));
        break;
      default:
        holdDone(where + "put(" + to + ", " + k + ", " + value + ")",
            () -> x.put(to, k, value), () -> model.put(to, k, value));
    }
  }

  private void changing(String where, boolean flag, int a, int to) {
    switch (random.nextInt(4)) {
      case 0:
        int kind = kind(6);
        holdDone(where + "change(" + kind + ", " + a + ", " + to + ")",
            () -> x.change(kind, a, to), () -> model.change(kind, a, to));
        break;
      case 1:
        int sort = kind(4);
        int way = way();
        int value = value();
        holdDone(where + "shift(" + sort + ", " + way + ", " + value + ", " + a + ", " + to + ")",
            () -> x.shift(sort, way, value, a, to), () -> model.shift(sort, way, value, a, to));
        break;
      case 2:
        int n = lengthOfWord();
        holdDone(where + "bring(" + flag + ", " + n + ", " + a + ", " + to + ")",
            () -> x.bring(flag, n, a, to), () -> model.bring(flag, n, a, to));
        break;
      default:
        int k = element(a);
        int part = random.nextInt(12) - 1;
        holdDone(where + "cut(" + k + ", " + part + ", " + a + ", " + to + ")",
            () -> x.cut(k, part, a, to), () -> model.cut(k, part, a, to));
    }
  }

  private void asking(String where, boolean flag, int a, int b) {
    switch (random.nextInt(7)) {
      case 0:
        int k = element(a);
        hold(where + "get(" + a + ", " + k + ")", () -> x.get(a, k), () -> model.get(a, k));
        break;
      case 1:
        hold(where + "length(" + a + ")", () -> x.length(a), () -> model.length(a));
        break;
      case 2:
        hold(where + "numberOf(" + a + ", " + flag + ")", () -> x.numberOf(a, flag), () -> model.numberOf(a, flag));
        break;
      case 3:
        hold(where + "compare(" + flag + ", " + a + ", " + b + ")",
            () -> x.compare(flag, a, b), () -> model.compare(flag, a, b));
        break;
      case 4:
        hold(where + "same(" + flag + ", " + a + ", " + b + ")",
            () -> x.same(flag, a, b), () -> model.same(flag, a, b));
        break;
      case 5:
        int kind = kind(3);
        hold(where + "all(" + kind + ", " + a + ")", () -> x.all(kind, a), () -> model.all(kind, a));
        break;
      default:
        int before = value();
        int now = value();
        hold(where + "edge(" + before + ", " + now + ")",
            () -> x.edge(before, now), () -> model.edge(before, now));
    }
  }
}
