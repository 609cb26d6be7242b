import java.lang.reflect.Constructor;
import java.lang.reflect.Field;
import java.lang.reflect.Method;
import java.lang.reflect.Modifier;
import java.util.Set;
import java.util.TreeSet;

/** The public face is the document's, and nothing else can be seen from outside. */
public final class FaceTest {
  private static final Set<String> FACE = Set.of(
      "void fill(int,int,int)",
      "void put(int,int,int)",
      "int get(int,int)",
      "int length(int)",
      "void number(int,int,long)",
      "long numberOf(int,boolean)",
      "void operate(int,boolean,int,int,int)",
      "void change(int,int,int)",
      "void shift(int,int,int,int,int)",
      "void bring(boolean,int,int,int)",
      "void cut(int,int,int,int)",
      "int compare(boolean,int,int)",
      "boolean same(boolean,int,int)",
      "int all(int,int)",
      "int edge(int,int)");

  public static void main(String[] args) {
    int modifiers = NineValues.class.getModifiers();
    Check.due("public", Modifier.isPublic(modifiers), true);
    Check.due("final", Modifier.isFinal(modifiers), true);
    methods();
    for (Field field : NineValues.class.getDeclaredFields()) {
      Check.due("private " + field.getName(), Modifier.isPrivate(field.getModifiers()), true);
    }
    Constructor<?>[] constructors = NineValues.class.getDeclaredConstructors();
    Check.due("constructors", constructors.length, 1);
    Check.due("its parameters", constructors[0].getParameterCount(), 0);
    Check.due("it is public", Modifier.isPublic(constructors[0].getModifiers()), true);
    Check.end();
  }

  private static void methods() {
    Set<String> seen = new TreeSet<>();
    Set<String> publicNames = new TreeSet<>();
    for (Method method : NineValues.class.getMethods()) {
      if (method.getDeclaringClass() == NineValues.class) {
        seen.add(signature(method));
        publicNames.add(method.getName());
      }
    }
    Check.due("the public methods", seen, new TreeSet<>(FACE));
    for (Method method : NineValues.class.getDeclaredMethods()) {
      if (!Modifier.isPublic(method.getModifiers())) {
        Check.due("private " + method.getName(), Modifier.isPrivate(method.getModifiers()), true);
        Check.due("public too " + method.getName(), publicNames.contains(method.getName()), false);
      }
    }
  }

  private static String signature(Method method) {
    StringBuilder text = new StringBuilder();
    for (Class<?> type : method.getParameterTypes()) {
      text.append(text.length() == 0 ? "" : ",").append(type.getName());
    }
    return method.getReturnType().getName() + " " + method.getName() + "(" + text + ")";
  }
}
