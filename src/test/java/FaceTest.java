import java.io.IOException;
import java.lang.reflect.Constructor;
import java.lang.reflect.Field;
import java.lang.reflect.Method;
import java.lang.reflect.Modifier;
import java.util.List;
import java.util.Set;
import java.util.TreeSet;

/** The public face is the document's, and nothing else can be seen from outside. */
public final class FaceTest {
  private static final String CONSTRUCTOR = "public NineValues()";

  private static final List<String> METHODS = List.of(
      "public void fill(int to, int n, int value) throws IndexOutOfBoundsException, IllegalArgumentException",
      "public void put(int to, int k, int value) throws IndexOutOfBoundsException, IllegalArgumentException",
      "public int get(int a, int k) throws IndexOutOfBoundsException",
      "public int length(int a) throws IndexOutOfBoundsException",
      "public void number(int to, int n, long v) throws IndexOutOfBoundsException, IllegalArgumentException",
      "public long numberOf(int a, boolean signed) throws IndexOutOfBoundsException, IllegalStateException",
      "public void operate(int operation, boolean signed, int a, int b, int to)"
          + " throws IndexOutOfBoundsException, IllegalArgumentException, ArithmeticException",
      "public void change(int kind, int a, int to) throws IndexOutOfBoundsException, IllegalArgumentException",
      "public void shift(int kind, int n, int value, int a, int to)"
          + " throws IndexOutOfBoundsException, IllegalArgumentException",
      "public void bring(boolean signed, int n, int a, int to)"
          + " throws IndexOutOfBoundsException, IllegalArgumentException",
      "public void cut(int k, int n, int a, int to) throws IndexOutOfBoundsException",
      "public int compare(boolean signed, int a, int b) throws IndexOutOfBoundsException",
      "public boolean same(boolean matched, int a, int b) throws IndexOutOfBoundsException",
      "public int all(int kind, int a) throws IndexOutOfBoundsException, IllegalArgumentException",
      "public int edge(int before, int now) throws IllegalArgumentException");

  public static void main(String[] args) throws IOException {
    Document.holdFaceAgainst(CONSTRUCTOR, METHODS);
    int modifiers = NineValues.class.getModifiers();
    Check.due("public", Modifier.isPublic(modifiers), true);
    Check.due("final", Modifier.isFinal(modifiers), true);
    Check.due("without a package", NineValues.class.getPackageName(), "");
    constructor();
    publicMethods();
    otherMethods();
    for (Field field : NineValues.class.getDeclaredFields()) {
      Check.due("private " + field.getName(), Modifier.isPrivate(field.getModifiers()), true);
    }
    Check.end();
  }

  private static void constructor() {
    Constructor<?>[] constructors = NineValues.class.getDeclaredConstructors();
    Check.due("constructors", constructors.length, 1);
    Check.due("the constructor", constructors[0].toString(), CONSTRUCTOR);
  }

  private static void publicMethods() {
    Set<String> seen = new TreeSet<>();
    for (Method method : NineValues.class.getMethods()) {
      if (method.getDeclaringClass() == NineValues.class) {
        seen.add(method.toString().replace("NineValues.", "").replace("java.lang.", ""));
      }
    }
    Set<String> due = new TreeSet<>();
    for (String method : METHODS) {
      due.add(withoutNames(method));
    }
    Check.due("the public methods", seen, due);
  }

  /** As the machine tells a method: without its parameters' names, and without spaces behind commas. */
  private static String withoutNames(String method) {
    return method.replaceAll("(int|long|boolean) \\w+([,)])", "$1$2").replace(", ", ",");
  }

  /** Rule 1 of LANGUAGE.md: they are private, and none, in classes inside neither, bears the name of a public one. */
  private static void otherMethods() {
    Set<String> names = new TreeSet<>();
    for (Method method : NineValues.class.getMethods()) {
      names.add(method.getName());
    }
    for (Method method : NineValues.class.getDeclaredMethods()) {
      if (!Modifier.isPublic(method.getModifiers())) {
        Check.due("private " + method.getName(), Modifier.isPrivate(method.getModifiers()), true);
        Check.due("public too " + method.getName(), names.contains(method.getName()), false);
      }
    }
    for (Class<?> inside : NineValues.class.getDeclaredClasses()) {
      for (Method method : inside.getDeclaredMethods()) {
        Check.due("of the face too " + method, names.contains(method.getName()), false);
      }
    }
  }
}
