import java.lang.reflect.Constructor;
import java.lang.reflect.Executable;
import java.lang.reflect.Field;
import java.lang.reflect.Method;
import java.lang.reflect.Modifier;
import java.util.Arrays;
import java.util.TreeSet;

/** The public face: the class, its constructor and its methods, and nothing else to be seen. */
public final class FaceTest {

  private static final String ARGUMENT = " throws IllegalArgumentException";
  private static final String STATE = " throws IllegalArgumentException, IllegalStateException";

  private static final String[] FACE = {
    "int setPriority(int, int, int)" + ARGUMENT,
    "int track(int, int, int)" + ARGUMENT,
    "boolean setLink(int, int, boolean)" + ARGUMENT,
    "int setPeriod(int, int)" + ARGUMENT,
    "void setPreemption(int, boolean, int)" + ARGUMENT,
    "boolean join(int, int, boolean)" + ARGUMENT,
    "int die(int)" + STATE,
    "int live(int)" + STATE,
    "void handOver(int, int)" + STATE,
    "int serve(int, int)" + ARGUMENT,
    "int tick(int)" + ARGUMENT,
    "int state(int, int)" + ARGUMENT,
    "int priority(int, int)" + ARGUMENT,
    "int timer(int, int)" + STATE,
    "int masters(int)" + ARGUMENT,
    "int changes(int, int)" + ARGUMENT,
    "int gaps(int)" + ARGUMENT,
    "int sent(int)" + ARGUMENT,
    "int known(int, int)" + ARGUMENT,
    "int repairs()",
    "boolean isSettled(int)" + ARGUMENT,
  };

  public static void main(String[] args) {
    int kind = StandbyPair.class.getModifiers();
    Check.due("the class is public and final", Modifier.isPublic(kind) && Modifier.isFinal(kind), true);

    Constructor<?>[] constructors = StandbyPair.class.getDeclaredConstructors();
    Check.due("constructors", constructors.length, 1);
    Check.due("the constructor", constructors[0].toString(), "public StandbyPair()");

    TreeSet<String> due = new TreeSet<>(Arrays.asList(FACE));
    TreeSet<String> seen = new TreeSet<>();
    TreeSet<String> hiddenNames = new TreeSet<>();
    for (Method method : StandbyPair.class.getDeclaredMethods()) {
      if (Modifier.isPrivate(method.getModifiers())) {
        hiddenNames.add(method.getName());
      } else {
        Check.due(method + " is public alone", method.getModifiers(), Modifier.PUBLIC);
        seen.add(told(method));
      }
    }
    Check.due("the face", seen.toString(), due.toString());
    for (Method method : StandbyPair.class.getMethods()) {
      Check.due("a private " + method.getName(), hiddenNames.contains(method.getName()), false);
    }
    for (Field field : StandbyPair.class.getDeclaredFields()) {
      int modifiers = field.getModifiers();
      Check.due(field + " is private", Modifier.isPrivate(modifiers), true);
      Check.due(field + " is final if static",
          !Modifier.isStatic(modifiers) || Modifier.isFinal(modifiers), true);
    }
    Check.end();
  }

  private static String told(Method method) {
    StringBuilder text = new StringBuilder(method.getReturnType() + " " + method.getName() + "(");
    text.append(names(method.getParameterTypes())).append(")");
    String thrown = names(((Executable) method).getExceptionTypes());
    return text.append(thrown.isEmpty() ? "" : " throws " + thrown).toString();
  }

  private static String names(Class<?>[] types) {
    StringBuilder text = new StringBuilder();
    for (Class<?> type : types) {
      text.append(text.length() == 0 ? "" : ", ").append(type.getSimpleName());
    }
    return text.toString();
  }
}
