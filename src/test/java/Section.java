import java.util.ArrayList;
import java.util.LinkedHashMap;
import java.util.List;
import java.util.Map;

/** A section of the document, by its heading: a test under it names the sentence that it holds the class against. */
final class Section {
  private static final Map<String, List<String>> QUOTED = new LinkedHashMap<>();

  private final String heading;

  Section(String heading) {
    this.heading = heading;
    QUOTED.putIfAbsent(heading, new ArrayList<>());
  }

  void sentence(String sentence, Runnable... tests) {
    QUOTED.get(heading).add(sentence);
    Check.under(heading + ", \"" + sentence + "\": ");
    for (Runnable test : tests) {
      run(test);
    }
    Check.due("tests", tests.length > 0, true);
    Check.under("");
  }

  /** An exception that is not due ends its own test alone, under the name of its sentence. */
  private static void run(Runnable test) {
    int before = Check.answers();
    try {
      test.run();
    } catch (RuntimeException e) {
      e.printStackTrace(System.out);
      Check.due("a call", e, "no exception");
    }
    Check.due("a test asks something", Check.answers() > before, true);
  }

  /** The sentences that tests have named so far, by heading. */
  static Map<String, List<String>> quoted() {
    return QUOTED;
  }
}
