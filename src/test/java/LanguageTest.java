import java.io.IOException;
import java.nio.file.Files;
import java.nio.file.Path;
import java.util.Set;
import java.util.regex.Matcher;
import java.util.regex.Pattern;

/** Rule 4 of ../shared/LANGUAGE.md: of the library the class uses only what the rule names. */
public final class LanguageTest {
  private static final Path SOURCE = Path.of("src/main/java/NineValues.java");

  /** "And their like" is left out: a function that the rule does not name was sent back. */
  private static final Set<String> NAMED =
      Set.of("compare", "max", "min", "abs", "bitCount", "floorDiv", "floorMod");

  private static final Pattern OF_THE_LIBRARY =
      Pattern.compile("\\b(?:Integer|Long|Math|StrictMath|Short|Byte|Character|Boolean|Double|Float)\\s*\\.\\s*(\\w+)");

  public static void main(String[] args) throws IOException {
    String code = withoutComments(Files.readString(SOURCE));
    Matcher used = OF_THE_LIBRARY.matcher(code);
    while (used.find()) {
      Check.due(used.group() + " is named by rule 4", NAMED.contains(used.group(1)), true);
    }
    Check.due("the class imports something", Pattern.compile("\\bimport\\b").matcher(code).find(), false);
    Check.end();
  }

  private static String withoutComments(String code) {
    return code.replaceAll("(?s)/\\*.*?\\*/", " ").replaceAll("//[^\\n]*", " ");
  }
}
