import java.io.File;
import java.lang.reflect.Method;
import java.nio.file.Files;
import java.nio.file.Path;
import java.util.HashMap;
import java.util.Map;
import java.util.Set;
import java.util.TreeSet;
import java.util.regex.Matcher;
import java.util.regex.Pattern;

// What README.md says of an answer is what the class answers: each of its calls is made. Its table names every test.
public final class ReadmeTest {
  private static final String MAKING = "BackVerses chapel = new BackVerses();";
  private static final Pattern CALL = Pattern.compile("chapel\\.(\\w+)\\(([^)]*)\\); +// (-?\\d+): .*");
  private static final Pattern ROW = Pattern.compile("\\| (\\w+Test) \\|.*");

  private static int wrong = 0;
  private static final Map<String, Method> METHODS = new HashMap<>();
  private static final Set<String> CALLED = new TreeSet<>();

  private static void fault(String what) {
    wrong++;
    System.out.println(what);
  }

  public static void main(String[] args) throws Exception {
    for (Method method : BackVerses.class.getMethods()) {
      if (method.getDeclaringClass() == BackVerses.class) METHODS.put(method.getName(), method);
    }
    String readme = Files.readString(Path.of("README.md"));
    examples(readme);
    table(readme);
    System.out.println(wrong == 0 ? "all answers are as due" : wrong + " answers are not as due");
    if (wrong != 0) System.exit(1);
  }

  private static void examples(String readme) throws Exception {
    boolean inside = false;
    BackVerses chapel = null;
    for (String line : readme.split("\n")) {
      if (line.startsWith("```")) {
        inside = line.equals("```java");
        chapel = null;
      } else if (inside && line.equals(MAKING)) {
        chapel = new BackVerses();
      } else if (inside) {
        example(chapel, line);
      }
    }
    Set<String> untold = new TreeSet<>(METHODS.keySet());
    untold.removeAll(CALLED);
    if (!untold.isEmpty()) fault("README.md has no example of " + untold);
  }

  private static void example(BackVerses chapel, String line) throws Exception {
    Matcher matcher = CALL.matcher(line);
    if (chapel == null || !matcher.matches()) {
      fault("README.md has a row that is no call: " + line);
      return;
    }
    Method method = METHODS.get(matcher.group(1));
    String[] told = matcher.group(2).isEmpty() ? new String[0] : matcher.group(2).split(", ");
    if (method == null || method.getParameterCount() != told.length) {
      fault("README.md has a call that isn't there: " + line);
      return;
    }
    CALLED.add(method.getName());
    Object[] with = new Object[told.length];
    for (int i = 0; i < told.length; i++) {
      with[i] = method.getParameterTypes()[i] == long.class ? (Object) number(told[i]) : (Object) (int) number(told[i]);
    }
    long got = ((Number) method.invoke(chapel, with)).longValue();
    if (got != Long.parseLong(matcher.group(3))) fault("README.md: " + line + " -- answered " + got);
  }

  private static long number(String told) {
    if (told.startsWith("'")) return told.charAt(1);
    return Long.decode(told.endsWith("L") ? told.substring(0, told.length() - 1) : told);
  }

  private static void table(String readme) {
    Set<String> named = new TreeSet<>();
    for (String line : readme.split("\n")) {
      Matcher matcher = ROW.matcher(line);
      if (matcher.matches()) named.add(matcher.group(1) + ".java");
    }
    String[] files = new File("src/test/java").list();
    Set<String> there = new TreeSet<>(Set.of(files == null ? new String[0] : files));
    if (!named.equals(there)) fault("README.md names the tests " + named + ", there are " + there);
  }
}
