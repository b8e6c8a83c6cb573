import java.lang.reflect.InvocationTargetException;
import java.lang.reflect.Method;
import java.lang.reflect.Modifier;
import java.nio.file.Files;
import java.nio.file.Path;
import java.util.ArrayList;
import java.util.List;
import java.util.TreeSet;
import java.util.regex.Matcher;
import java.util.regex.Pattern;

/**
 * README.md: each call of its examples answers what stands behind it, the examples use every call of
 * the face, and its tables tell every signature of the document's face.
 */
public final class ReadmeTest {

  private static final Pattern MADE = Pattern.compile("StandbyPair pair = new StandbyPair\\(\\);");
  private static final Pattern CALL =
      Pattern.compile("pair\\.(\\w+)\\(([^)]*)\\);\\s*// (?:(-?\\d+|true|false|throws \\w+)\\b)?.*");
  private static final Pattern SIGNATURE = Pattern.compile(" {4}public (\\w+ \\w+\\([^)]*\\)).*");

  public static void main(String[] args) throws Exception {
    List<String> readme = Files.readAllLines(Path.of("README.md"));
    TreeSet<String> used = new TreeSet<>();
    StandbyPair pair = null;
    for (String line : exampleLines(readme)) {
      if (MADE.matcher(line).matches()) {
        pair = new StandbyPair();
        continue;
      }
      Matcher call = CALL.matcher(line);
      if (pair == null || !call.matches()) {
        Check.wrong("README: not to be understood: " + line);
        continue;
      }
      used.add(call.group(1));
      Check.due("README: " + line, answer(pair, call.group(1), call.group(2)), told(call));
    }
    Check.due("README: calls in the examples", used.toString(), faceNames().toString());
    signaturesAreTold(readme);
    Check.end();
  }

  private static List<String> exampleLines(List<String> readme) {
    List<String> lines = new ArrayList<>();
    boolean inside = false;
    for (String line : readme) {
      if (line.startsWith("```")) {
        inside = line.equals("```java");
      } else if (inside) {
        lines.add(line);
      }
    }
    return lines;
  }

  /** What stands behind the call; a call without an answer has only words there. */
  private static String told(Matcher call) {
    return call.group(3) == null ? "nothing" : call.group(3);
  }

  private static String answer(StandbyPair pair, String name, String parameters) throws Exception {
    Method method = methodNamed(name);
    String[] texts = parameters.isEmpty() ? new String[0] : parameters.split(", ");
    Object[] values = new Object[texts.length];
    for (int n = 0; n < texts.length; n++) {
      boolean flag = method.getParameterTypes()[n] == boolean.class;
      values[n] = flag ? (Object) Boolean.valueOf(texts[n]) : (Object) Integer.valueOf(texts[n]);
    }
    try {
      Object got = method.invoke(pair, values);
      return method.getReturnType() == void.class ? "nothing" : "" + got;
    } catch (InvocationTargetException e) {
      return "throws " + e.getCause().getClass().getSimpleName();
    }
  }

  private static Method methodNamed(String name) {
    for (Method method : StandbyPair.class.getDeclaredMethods()) {
      if (Modifier.isPublic(method.getModifiers()) && method.getName().equals(name)) {
        return method;
      }
    }
    throw new IllegalArgumentException("no call is named " + name);
  }

  private static TreeSet<String> faceNames() {
    TreeSet<String> names = new TreeSet<>();
    for (Method method : StandbyPair.class.getDeclaredMethods()) {
      if (Modifier.isPublic(method.getModifiers())) {
        names.add(method.getName());
      }
    }
    return names;
  }

  private static void signaturesAreTold(List<String> readme) throws Exception {
    int count = 0;
    for (String line : Files.readAllLines(Path.of("../shared/DOC.md"))) {
      Matcher signature = SIGNATURE.matcher(line);
      if (signature.matches()) {
        count++;
        String row = "| `" + signature.group(1) + "` |";
        long rows = readme.stream().filter(each -> each.startsWith(row)).count();
        Check.due("README: rows of " + signature.group(1), rows, 1);
      }
    }
    Check.due("README: calls of the document", count, faceNames().size());
  }
}
