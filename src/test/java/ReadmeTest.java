import java.io.ByteArrayOutputStream;
import java.io.IOException;
import java.io.PrintStream;
import java.lang.reflect.Method;
import java.lang.reflect.Modifier;
import java.nio.file.DirectoryStream;
import java.nio.file.Files;
import java.nio.file.Path;

/** What README.md says is so: its example prints what it shows, and it names every call and every test. */
public final class ReadmeTest {
  private static final Path TESTS = Path.of("src/test/java");

  public static void main(String[] args) throws IOException {
    String readme = Files.readString(Path.of("README.md"));
    String example = Files.readString(TESTS.resolve("Example.java"));
    Check.due("it shows Example.java", readme.contains(block("java", example)), true);
    String printed = printedByExample();
    Check.due("it shows that the example prints " + printed, readme.contains(block("text", printed)), true);
    namesEveryCall(readme);
    namesEveryTest(readme);
    Check.end();
  }

  private static String block(String kind, String text) {
    return "```" + kind + "\n" + text + "```\n";
  }

  private static String printedByExample() {
    PrintStream out = System.out;
    ByteArrayOutputStream printed = new ByteArrayOutputStream();
    System.setOut(new PrintStream(printed, true));
    try {
      Example.main(new String[0]);
    } finally {
      System.setOut(out);
    }
    return printed.toString().replace(System.lineSeparator(), "\n");
  }

  private static void namesEveryCall(String readme) {
    for (Method method : NineValues.class.getDeclaredMethods()) {
      if (Modifier.isPublic(method.getModifiers())) {
        Check.due("it names " + method.getName(), readme.contains("| `" + method.getName() + "("), true);
      }
    }
  }

  private static void namesEveryTest(String readme) throws IOException {
    try (DirectoryStream<Path> tests = Files.newDirectoryStream(TESTS, "*Test.java")) {
      for (Path test : tests) {
        String name = test.getFileName().toString().replace(".java", "");
        Check.due("it names " + name, readme.contains("| `" + name + "` |"), true);
      }
    }
  }
}
