import java.io.IOException;
import java.nio.file.Files;
import java.nio.file.Path;
import java.util.ArrayList;
import java.util.Arrays;
import java.util.LinkedHashMap;
import java.util.List;
import java.util.Map;

/** The document's own words, so that no sentence of it is quoted wrongly, and none is left without a test. */
final class Document {
  private static final Path PATH = Path.of("../shared/DOC.md");

  /** Of these sections no sentence tells what a call does; FaceTest has the public face. */
  private static final List<String> WITHOUT_TESTS = List.of("What it is", "The public face", "Not promised");

  private Document() {}

  static void holdAgainst(Map<String, List<String>> quoted) throws IOException {
    if (!Files.exists(PATH)) {
      System.out.println(PATH + " is not there: the sentences are not held against it");
      return;
    }
    Map<String, String> sections = sections(Files.readString(PATH));
    for (String heading : quoted.keySet()) {
      Check.due("the document has \"" + heading + "\"", sections.containsKey(heading), true);
    }
    for (Map.Entry<String, String> section : sections.entrySet()) {
      String heading = section.getKey();
      String left = withoutQuotes(heading, section.getValue(), quoted.getOrDefault(heading, List.of()));
      if (!WITHOUT_TESTS.contains(heading)) {
        Check.due(heading + ": words without a test", left.replaceAll("[^\\w]+", " ").strip(), "");
      }
    }
  }

  /** The face as the document writes it out, line by line, is the one that is tested. */
  static void holdFaceAgainst(String constructor, List<String> methods) throws IOException {
    if (!Files.exists(PATH)) {
      System.out.println(PATH + " is not there: the face is not held against it");
      return;
    }
    List<String> tested = new ArrayList<>(List.of(constructor));
    tested.addAll(methods);
    List<String> written = new ArrayList<>();
    for (String line : Files.readString(PATH).split("```")[1].split("\n")) {
      if (line.endsWith(";")) {
        written.add(line.replace(";", "").strip());
      }
    }
    Check.due("the document's face", written, tested);
  }

  /** By heading, in one line each, without the method's face in front of its promise. */
  private static Map<String, String> sections(String text) {
    Map<String, String> sections = new LinkedHashMap<>();
    for (String part : text.split("(?m)^## ")) {
      int end = part.indexOf('\n');
      String body = part.substring(end).replaceAll("```\\w*", " ").replaceAll("\\s+", " ");
      sections.put(part.substring(0, end).strip(), body.replaceFirst("^ `[^`]*`:", ""));
    }
    sections.remove("# NineValues");
    return sections;
  }

  private static String withoutQuotes(String heading, String body, List<String> quotes) {
    boolean[] quoted = new boolean[body.length()];
    for (String quote : quotes) {
      int from = body.indexOf(quote);
      Check.due(heading + " has the words \"" + quote + "\"", from >= 0, true);
      if (from >= 0) {
        Arrays.fill(quoted, from, from + quote.length(), true);
      }
    }
    StringBuilder left = new StringBuilder();
    for (int i = 0; i < body.length(); i++) {
      left.append(quoted[i] ? ' ' : body.charAt(i));
    }
    return left.toString();
  }
}
