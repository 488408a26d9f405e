import java.io.IOException;
import java.lang.reflect.Method;
import java.lang.reflect.Modifier;
import java.nio.file.Files;
import java.nio.file.Path;
import java.util.ArrayList;
import java.util.HashMap;
import java.util.List;
import java.util.Map;
import java.util.regex.Matcher;
import java.util.regex.Pattern;

/** README.md: its examples are run as they stand there; it names every call and every test. */
public final class ReadmeTests {
  private static final Pattern EXAMPLE =
      Pattern.compile("^(?:int (\\w+) = )?x\\.(\\w+)\\(([^)]*)\\);\\s*// (-?\\d+|OneCloth\\.\\w+)\\b.*$");
  private static int wrong = 0;

  private static void fault(String what) {
    wrong++;
    System.out.println("README.md: " + what);
  }

  public static void main(String[] args) throws Exception {
    Path root = Path.of(args.length > 0 ? args[0] : ".");
    String readme = Files.readString(root.resolve("README.md"));
    int run = examples(readme);
    calls(readme);
    tests(readme, root);
    System.out.println(wrong == 0 ? run + " examples answer as told" : wrong + " faults");
    if (wrong != 0) System.exit(1);
  }

  /** All of them on one object, one behind the other: how many. */
  private static int examples(String readme) throws Exception {
    OneCloth x = new OneCloth();
    Map<String, Integer> names = new HashMap<>();
    int run = 0;
    Matcher block = Pattern.compile("(?s)```java\n(.*?)```").matcher(readme);
    while (block.find()) {
      for (String line : block.group(1).split("\n")) {
        if (line.equals("OneCloth x = new OneCloth();")) continue;
        Matcher m = EXAMPLE.matcher(line);
        if (!m.matches()) {
          fault("this line tells no answer: " + line);
          continue;
        }
        int got = answer(x, m.group(2), m.group(3), names);
        if (m.group(1) != null) names.put(m.group(1), got);
        if (got != told(m.group(4))) fault(line + " answered " + got);
        run++;
      }
    }
    if (run < 10) fault("only " + run + " examples are seen");
    return run;
  }

  private static int told(String word) throws Exception {
    return word.startsWith("OneCloth.") ? OneCloth.class.getField(word.substring(9)).getInt(null) : Integer.parseInt(word);
  }

  private static int answer(OneCloth x, String name, String words, Map<String, Integer> names) throws Exception {
    List<Object> values = new ArrayList<>();
    for (String word : words.isEmpty() ? new String[0] : words.split(", ")) {
      values.add(names.containsKey(word) ? names.get(word) : Integer.decode(word));
    }
    Class<?>[] types = new Class<?>[values.size()];
    java.util.Arrays.fill(types, int.class);
    return (Integer) OneCloth.class.getMethod(name, types).invoke(x, values.toArray());
  }

  private static void calls(String readme) {
    for (Method method : OneCloth.class.getDeclaredMethods()) {
      boolean named = readme.contains("`" + method.getName() + "`");
      if (Modifier.isPublic(method.getModifiers()) && !named) fault("it does not name the call " + method.getName());
    }
  }

  private static void tests(String readme, Path root) throws IOException {
    try (var files = Files.list(root.resolve("src/test/java"))) {
      files.map(f -> "src/test/java/" + f.getFileName()).filter(f -> !readme.contains("`" + f + "`"))
          .forEach(f -> fault("it does not name the test " + f));
    }
    Matcher m = Pattern.compile("`(src/[\\w/]+\\.java)`").matcher(readme);
    while (m.find()) {
      if (!Files.exists(root.resolve(m.group(1)))) fault("there is no " + m.group(1));
    }
  }
}
