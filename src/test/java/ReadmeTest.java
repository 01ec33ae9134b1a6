import java.io.File;
import java.lang.reflect.Method;
import java.nio.file.Files;
import java.nio.file.Path;
import java.util.Set;
import java.util.TreeSet;
import java.util.regex.Matcher;
import java.util.regex.Pattern;

/** README.md: its calls answer what stands behind them; its lists name all methods and tests. */
public final class ReadmeTest {
  private static final Pattern CALL = Pattern.compile("x\\.(\\w+)\\((.*)\\); +// (.*)");
  private static final String MAKING = "Ownshelf x = new Ownshelf();";

  public static void main(String[] arguments) throws Exception {
    String readme = Files.readString(Path.of("README.md"));
    calls(readme);
    Check.part("README.md");
    Check.due("methods named", names(readme, "(?m)^\\| .*", "`([a-z]\\w*)`"), methods());
    Check.due("tests named", names(readme, "(?m)^(- |  )`\\w+Test`.*", "`(\\w+Test)`"), tests());
    Check.due("tells what runs the tests", readme.contains("    bash .ci/run\n"), true);
    Check.end("ReadmeTest");
  }

  private static void calls(String readme) throws Exception {
    String block = between(readme, "```java\n", "```");
    Ownshelf x = new Ownshelf();
    for (String line : block.split("\n")) {
      Check.part("README.md: " + line);
      Matcher matcher = CALL.matcher(line);
      Check.due("is a call", line.equals(MAKING) || matcher.matches(), true);
      if (!line.equals(MAKING)) {
        Object answer = answer(x, matcher.group(1), matcher.group(2).split(", "));
        Check.due("what stands behind it", matcher.group(3).split(": ")[0], written(answer));
      }
    }
  }

  private static String between(String text, String start, String end) {
    int from = text.indexOf(start) + start.length();
    return text.substring(from, text.indexOf(end, from));
  }

  private static Object answer(Ownshelf x, String name, String[] written) throws Exception {
    for (Method method : Calls.methods()) {
      if (method.getName().equals(name)) {
        Object[] arguments = new Object[method.getParameterCount()];
        for (int k = 0; k < arguments.length; k++) {
          arguments[k] = read(method.getParameterTypes()[k], written[k]);
        }
        return Calls.answer(x, method, arguments);
      }
    }
    return "no such method";
  }

  private static Object read(Class<?> type, String written) {
    if (type == boolean.class) {
      return Boolean.valueOf(written);
    }
    return Integer.valueOf(written);
  }

  private static String written(Object answer) {
    if (answer instanceof Class) {
      return "throws " + ((Class<?>) answer).getSimpleName();
    }
    return answer instanceof String ? "\"" + answer + "\"" : String.valueOf(answer);
  }

  /** The names in those lines. */
  private static Set<String> names(String text, String lines, String name) {
    Set<String> names = new TreeSet<>();
    Matcher line = Pattern.compile(lines).matcher(text);
    while (line.find()) {
      Pattern.compile(name).matcher(line.group()).results().forEach(r -> names.add(r.group(1)));
    }
    return names;
  }

  private static Set<String> methods() {
    Set<String> names = new TreeSet<>();
    for (Method method : Calls.methods()) {
      names.add(method.getName());
    }
    return names;
  }

  private static Set<String> tests() {
    Set<String> names = new TreeSet<>();
    for (String file : new File("src/test/java").list()) {
      if (file.endsWith("Test.java")) {
        names.add(file.substring(0, file.length() - ".java".length()));
      }
    }
    return names;
  }
}
