import java.io.IOException;
import java.lang.reflect.Field;
import java.lang.reflect.Method;
import java.lang.reflect.Modifier;
import java.nio.file.Files;
import java.nio.file.Path;
import java.util.ArrayList;
import java.util.List;
import java.util.Map;
import java.util.Set;
import java.util.TreeMap;
import java.util.TreeSet;
import java.util.regex.Matcher;
import java.util.regex.Pattern;

/** The rules of LANGUAGE.md that can be seen from the source's words and from the compiled class. */
public final class LanguageTests {
  private static final Pattern HEAD = Pattern.compile(
      "^( +)((?:private |public |static |final )*)(?:int|boolean|void|String|\\w+\\[\\]) (\\w+)\\(([^)]*)\\) \\{$");
  private static int wrong = 0;

  private static void rule(int number, boolean kept, String what) {
    if (!kept) { wrong++; System.out.println("rule " + number + ": " + what); }
  }

  public static void main(String[] args) throws IOException {
    Path root = Path.of(args.length > 0 ? args[0] : ".");
    String source = Files.readString(root.resolve("src/main/java/OneCloth.java"));
    String doc = Files.readString(root.resolve("../shared/DOC.md"));
    String code = withoutTexts(source);
    face(doc);
    groups(doc, source);
    words(code);
    methods(code);
    depth(code);
    classes();
    System.out.println(wrong == 0 ? "the language is kept to" : wrong + " rules are not kept");
    if (wrong != 0) System.exit(1);
  }

  private static String withoutTexts(String source) {
    return source.replaceAll("(?s)/\\*.*?\\*/", "").replaceAll("//[^\n]*", "")
        .replaceAll("\"[^\"\n]*\"", "\"\"").replaceAll("'[^'\n]'", "' '");
  }

  private static void face(String doc) {
    Set<String> due = new TreeSet<>();
    Matcher m = Pattern.compile("public int (\\w+)\\(([^)]*)\\);").matcher(doc);
    while (m.find()) due.add(m.group(1) + "/" + (m.group(2).isEmpty() ? 0 : m.group(2).split(",").length));
    Set<String> is = new TreeSet<>();
    for (Method method : OneCloth.class.getDeclaredMethods()) {
      if (Modifier.isPublic(method.getModifiers())) is.add(method.getName() + "/" + method.getParameterCount());
      else rule(1, Modifier.isPrivate(method.getModifiers()), method.getName() + " is neither public nor private");
    }
    rule(1, !due.isEmpty() && due.equals(is), "the face is " + is + ", due is " + due);
    Matcher constants = Pattern.compile("(\\w+) = (-\\d+)").matcher(doc);
    Set<String> named = new TreeSet<>();
    while (constants.find()) named.add(constants.group(1));
    for (Field field : OneCloth.class.getDeclaredFields()) {
      boolean isPublic = Modifier.isPublic(field.getModifiers());
      rule(1, isPublic ? named.remove(field.getName()) : Modifier.isPrivate(field.getModifiers()), field.getName());
    }
    rule(1, named.isEmpty(), "constants that are missing: " + named);
    rule(1, Modifier.isFinal(OneCloth.class.getModifiers()), "the class is not final");
  }

  /** What the interface says ahead of its calls stands there, and the calls stand in the document's order. */
  private static void groups(String doc, String source) {
    int at = 0;
    int seen = 0;
    Matcher group = Pattern.compile("Ahead of the calls (.*?) the interface says: (---- .*?)\\.\n").matcher(doc);
    while (group.find()) {
      at = next(source, "    // " + group.group(2) + "\n", at);
      Matcher call = Pattern.compile("`(\\w+)`").matcher(group.group(1));
      while (call.find()) {
        at = next(source, "    public int " + call.group(1) + "(", at);
        seen++;
      }
    }
    rule(1, seen == 39, "calls in groups: " + seen);
    rule(1, source.split("\n    // ---- ", -1).length - 1 == 6, "there are other groups than the document's");
  }

  private static int next(String source, String words, int from) {
    int at = source.indexOf(words, from);
    rule(1, at >= 0, "not in the document's order: " + words.trim());
    return Math.max(at, from);
  }

  private static void words(String code) {
    String[] never = {"throw", "throws", "try", "catch", "finally", "synchronized", "assert", "import", "package", "var",
      "equals", "hashCode", "toString", "System\\.out", "System\\.nano\\w*", "Thread", "Random", "volatile", "NaN",
      "MAX_VALUE", "MIN_VALUE", "\\w+Exact", "java", "default\\s*->", "Object", "double", "float"};
    for (String word : never) {
      rule(6, !Pattern.compile("(?<![\\w.])" + word + "\\b").matcher(code).find(), "the word " + word);
    }
    rule(2, !code.contains("->") && !code.contains("::"), "a lambda or a method reference");
    rule(10, !Pattern.compile("\"\" *\\+|\\+ *\"\"").matcher(code).find(), "texts are joined by +");
    Set<String> library = new TreeSet<>();
    Matcher m = Pattern.compile("\\b(Math|Integer|Long|System|Arrays)\\.(\\w+)").matcher(code);
    while (m.find()) library.add(m.group());
    library.removeAll(Set.of("Math.min", "Math.max", "Math.abs", "Integer.bitCount", "System.arraycopy"));
    rule(4, library.isEmpty(), "the library: " + library);
  }

  private static void methods(String code) {
    List<String> names = new ArrayList<>();
    Set<String> publicNames = new TreeSet<>();
    String[] lines = code.split("\n", -1);
    for (int i = 0; i < lines.length; i++) {
      Matcher m = HEAD.matcher(lines[i]);
      if (!m.find()) continue;
      if (m.group(2).contains("public")) publicNames.add(m.group(3)); else names.add(m.group(3));
      int end = i;
      while (end < lines.length && !lines[end].equals(m.group(1) + "}")) end++;
      rule(11, end - i < 60, m.group(3) + " has " + (end - i + 1) + " lines");
      rule(11, m.group(4).split(",").length <= 7, m.group(3) + " has too many parameters");
    }
    rule(11, names.size() > 20 && publicNames.size() == 39, "methods are not seen: " + names.size() + ", " + publicNames.size());
    for (String name : names) rule(1, !publicNames.contains(name), name + " is a public method's name too");
  }

  /** By name, which methods a method calls. Methods of one name count as one, so a chain may only seem longer. */
  private static Map<String, Set<String>> callsIn(String code) {
    Map<String, Set<String>> words = new TreeMap<>();
    String inside = null;
    for (String line : code.split("\n", -1)) {
      Matcher m = HEAD.matcher(line);
      if (m.find()) {
        inside = m.group(3);
        words.putIfAbsent(inside, new TreeSet<>());
      } else if (inside != null) {
        Matcher call = Pattern.compile("(?<!new )\\b(\\w+)\\(").matcher(line);
        while (call.find()) words.get(inside).add(call.group(1));
      }
    }
    for (Set<String> called : words.values()) called.retainAll(words.keySet());
    return words;
  }

  private static void depth(String code) {
    Map<String, Set<String>> calls = callsIn(code);
    Map<String, Set<String>> reached = new TreeMap<>();
    for (String name : calls.keySet()) {
      Set<String> all = new TreeSet<>();
      reach(name, calls, all);
      reached.put(name, all);
    }
    for (String name : calls.keySet()) {
      List<String> chain = longest(name, calls, reached);
      rule(11, chain.size() <= 8, "calls go " + chain.size() + " deep: " + chain);
    }
    rule(11, longest("behind", calls, reached).size() >= 6, "calls are not seen");
    Set<String> recursive = new TreeSet<>(Set.of("takeOver"));
    for (String name : calls.keySet()) if (reached.get(name).contains(name)) recursive.add(name);
    rule(8, recursive.equals(new TreeSet<>(Set.of("takeOver", "tryHaulings", "readLevel", "readPiece", "readNot", "readBracket"))),
        "these call themselves; look at their guards: " + recursive);
  }

  private static void reach(String name, Map<String, Set<String>> calls, Set<String> all) {
    for (String called : calls.get(name)) if (all.add(called)) reach(called, calls, all);
  }

  /** Methods that call one another are recursion, and count as one. */
  private static List<String> longest(String name, Map<String, Set<String>> calls, Map<String, Set<String>> reached) {
    Set<String> level = new TreeSet<>(Set.of(name));
    for (String other : reached.get(name)) if (reached.get(other).contains(name)) level.add(other);
    List<String> best = new ArrayList<>();
    for (String from : level) {
      for (String called : calls.get(from)) {
        if (level.contains(called)) continue;
        List<String> chain = longest(called, calls, reached);
        if (chain.size() > best.size()) best = chain;
      }
    }
    List<String> whole = new ArrayList<>(List.of(name));
    whole.addAll(best);
    return whole;
  }

  private static void classes() {
    Class<?>[] inside = OneCloth.class.getDeclaredClasses();
    rule(11, inside.length < 12, "there are too many classes");
    List<Class<?>> all = new ArrayList<>(List.of(inside));
    all.add(OneCloth.class);
    for (Class<?> one : all) {
      rule(2, one == OneCloth.class || Modifier.isStatic(one.getModifiers()), one + " is not static");
      int fields = 0;
      for (Field field : one.getDeclaredFields()) {
        boolean isStatic = Modifier.isStatic(field.getModifiers());
        fields += isStatic ? 0 : 1;
        rule(5, !isStatic || Modifier.isFinal(field.getModifiers()), field + " is static and not final");
      }
      rule(11, fields <= 20, one + " has " + fields + " fields");
    }
  }
}
