import java.io.IOException;
import java.lang.reflect.Method;
import java.nio.charset.StandardCharsets;
import java.nio.file.Files;
import java.nio.file.Path;
import java.util.ArrayList;
import java.util.List;
import java.util.regex.Matcher;
import java.util.regex.Pattern;

/** The calls in README.md, made in their order on one object; run from the project's root. */
public final class OthersShareReadme {
  private static final Pattern CALL = Pattern.compile("x\\.(\\w+)\\((.*)\\);\\s+// (-?\\d+)(: .*)?");

  private static int calls = 0;
  private static int wrong = 0;

  private static List<String> example() throws IOException {
    String readme = Files.readString(Path.of("README.md"), StandardCharsets.UTF_8);
    Matcher block = Pattern.compile("(?s)```java\n(.*?)```").matcher(readme);
    return block.find() ? block.group(1).lines().toList() : List.of();
  }

  private static Method method(String name) {
    for (Method m : OthersShare.class.getMethods()) {
      if (m.getName().equals(name) && m.getDeclaringClass() == OthersShare.class) {
        return m;
      }
    }
    throw new IllegalArgumentException("README.md names no call of the class: " + name);
  }

  private static long answer(OthersShare x, String name, String arguments) throws ReflectiveOperationException {
    Method m = method(name);
    List<Object> values = new ArrayList<>();
    for (String word : arguments.isEmpty() ? new String[0] : arguments.split(", ")) {
      boolean isLong = word.endsWith("L");
      long value = Long.decode(isLong ? word.substring(0, word.length() - 1) : word);
      values.add(isLong ? (Object) value : (Object) (int) value);
    }
    return ((Number) m.invoke(x, values.toArray())).longValue();
  }

  private static void check(OthersShare x, String line) throws ReflectiveOperationException {
    Matcher call = CALL.matcher(line);
    if (!call.matches()) {
      wrong++;
      System.out.println("README.md: no call with its answer: " + line);
      return;
    }
    calls++;
    long got = answer(x, call.group(1), call.group(2));
    if (got != Long.parseLong(call.group(3))) {
      wrong++;
      System.out.println("README.md: " + line + " .. answered " + got);
    }
  }

  public static void main(String[] args) throws IOException, ReflectiveOperationException {
    OthersShare x = new OthersShare();
    for (String line : example()) {
      if (line.startsWith("x.")) {
        check(x, line);
      }
    }
    System.out.println(calls + " calls of README.md, " + wrong + " are not as written");
    if (wrong != 0 || calls == 0) {
      System.exit(1);
    }
  }
}
