import java.io.IOException;
import java.lang.reflect.Executable;
import java.lang.reflect.Field;
import java.lang.reflect.Modifier;
import java.nio.file.Files;
import java.nio.file.Path;
import java.util.ArrayList;
import java.util.List;
import java.util.Set;
import java.util.regex.Matcher;
import java.util.regex.Pattern;

/** Rules of ../shared/LANGUAGE.md that can be seen in the class's text and form; FaceTest has those on its face. */
public final class LanguageTest {
  private static final Path SOURCE = Path.of("src/main/java/NineValues.java");

  /** "And their like" is left out: a function that the rule does not name was sent back. */
  private static final Set<String> NAMED =
      Set.of("compare", "max", "min", "abs", "bitCount", "floorDiv", "floorMod");

  private static final Set<String> EXCEPTIONS = Set.of(
      "IllegalStateException", "IllegalArgumentException", "IndexOutOfBoundsException", "ArithmeticException",
      "UnsupportedOperationException", "NoSuchElementException", "RuntimeException");

  /** Rules 2, 4, 6 and 9 refuse these, or allow them only in ways that the class has no need of. */
  private static final String[] NOT_USED = {
    "\\bimport\\b", "\\bpackage\\b", "->", "::", "\\btry\\b", "\\bcatch\\b", "\\bfinally\\b", "\\bsynchronized\\b",
    "\\bassert\\b", "\\binstanceof\\b", "\\bwhile\\b", "\\bdo\\b", "\\bdouble\\b", "\\bfloat\\b", "\\bvar\\b"
  };

  public static void main(String[] args) throws IOException {
    String code = withoutTexts(withoutComments(Files.readString(SOURCE)));
    for (String word : NOT_USED) {
      Check.due("rules 2, 4, 6, 9: " + word + " is used", Pattern.compile(word).matcher(code).find(), false);
    }
    library(code);
    exceptions(code);
    List<Class<?>> classes = new ArrayList<>(List.of(NineValues.class.getDeclaredClasses()));
    for (Class<?> inside : classes) {
      Check.due("rule 2: static is " + inside, Modifier.isStatic(inside.getModifiers()), true);
      Check.due("rule 1: not public is " + inside, Modifier.isPublic(inside.getModifiers()), false);
    }
    classes.add(NineValues.class);
    Check.due("rule 11: at most twelve classes", classes.size() <= 12, true);
    for (Class<?> one : classes) {
      fields(one);
      parameters(one.getDeclaredMethods());
      parameters(one.getDeclaredConstructors());
    }
    Check.end();
  }

  private static String withoutComments(String code) {
    return code.replaceAll("(?s)/\\*.*?\\*/", " ").replaceAll("//[^\\n]*", " ");
  }

  private static String withoutTexts(String code) {
    return code.replaceAll("\"[^\"\\n]*\"", "\"\"");
  }

  private static void library(String code) {
    Matcher name = Pattern.compile("\\b[A-Z]\\w*[a-z]\\w*(\\s*\\.\\s*(\\w+))?").matcher(code);
    while (name.find()) {
      String type = name.group().split("\\W")[0];
      boolean own = Set.of("NineValues", "Wire", "Word").contains(type);
      boolean named = type.equals("Math") && NAMED.contains(name.group(2));
      Check.due("rule 4: may be used " + name.group(), own || named || EXCEPTIONS.contains(type), true);
    }
  }

  private static void exceptions(String code) {
    Matcher thrown = Pattern.compile("\\bthrow\\b[^;]*;").matcher(code);
    while (thrown.find()) {
      String text = thrown.group().replaceAll("throw new (\\w+)\\(\"\"\\);", "$1");
      Check.due("rule 6: " + thrown.group(), EXCEPTIONS.contains(text), true);
    }
  }

  private static void fields(Class<?> one) {
    int changing = 0;
    for (Field field : one.getDeclaredFields()) {
      if (Modifier.isStatic(field.getModifiers())) {
        Check.due("rule 5: final is " + field, Modifier.isFinal(field.getModifiers()), true);
        Check.due("rule 5: a constant is " + field, Set.of(int.class, long.class).contains(field.getType()), true);
      } else {
        changing++;
      }
    }
    Check.due("rule 11: at most twenty fields has " + one, changing <= 20, true);
  }

  private static void parameters(Executable[] calls) {
    for (Executable call : calls) {
      Check.due("rule 11: at most seven parameters has " + call, call.getParameterCount() <= 7, true);
    }
  }
}
