import java.io.IOException;
import java.lang.reflect.Field;
import java.lang.reflect.Method;
import java.lang.reflect.Modifier;
import java.nio.file.Files;
import java.nio.file.Path;
import java.util.ArrayList;
import java.util.List;
import java.util.Set;
import java.util.TreeSet;
import java.util.regex.Matcher;
import java.util.regex.Pattern;

/** The rules of LANGUAGE.md that can be seen from the source's words and from the compiled class. */
public final class LanguageTests {
  private static int wrong = 0;

  private static void rule(int number, boolean kept, String what) {
    if (!kept) { wrong++; System.out.println("rule " + number + ": " + what); }
  }

  public static void main(String[] args) throws IOException {
    Path root = Path.of(args.length > 0 ? args[0] : ".");
    String source = Files.readString(root.resolve("src/main/java/OneCloth.java"));
    String doc = Files.readString(root.resolve("../shared/DOC.md"));
    String code = withoutTexts(source);
    face(doc);
    words(code);
    methods(code);
    classes();
    System.out.println(wrong == 0 ? "the language is kept to" : wrong + " rules are not kept");
    if (wrong != 0) System.exit(1);
  }

  private static String withoutTexts(String source) {
    return source.replaceAll("(?s)/\\*.*?\\*/", "").replaceAll("//[^\n]*", "")
        .replaceAll("\"[^\"\n]*\"", "\"\"").replaceAll("'[^'\n]'", "' '");
  }

  private static void face(String doc) {
    Set<String> due = new TreeSet<>();
    Matcher m = Pattern.compile("public int (\\w+)\\(([^)]*)\\);").matcher(doc);
    while (m.find()) due.add(m.group(1) + "/" + (m.group(2).isEmpty() ? 0 : m.group(2).split(",").length));
    Set<String> is = new TreeSet<>();
    for (Method method : OneCloth.class.getDeclaredMethods()) {
      if (Modifier.isPublic(method.getModifiers())) is.add(method.getName() + "/" + method.getParameterCount());
      else rule(1, Modifier.isPrivate(method.getModifiers()), method.getName() + " is neither public nor private");
    }
    rule(1, !due.isEmpty() && due.equals(is), "the face is " + is + ", due is " + due);
    Matcher constants = Pattern.compile("(\\w+) = (-\\d+)").matcher(doc);
    Set<String> named = new TreeSet<>();
    while (constants.find()) named.add(constants.group(1));
    for (Field field : OneCloth.class.getDeclaredFields()) {
      boolean isPublic = Modifier.isPublic(field.getModifiers());
      rule(1, isPublic ? named.remove(field.getName()) : Modifier.isPrivate(field.getModifiers()), field.getName());
    }
    rule(1, named.isEmpty(), "constants that are missing: " + named);
    rule(1, Modifier.isFinal(OneCloth.class.getModifiers()), "the class is not final");
  }

  private static void words(String code) {
    String[] never = {"throw", "throws", "try", "catch", "finally", "synchronized", "assert", "import", "package", "var",
      "equals", "hashCode", "toString", "System\\.out", "System\\.nano\\w*", "Thread", "Random", "volatile", "NaN",
      "MAX_VALUE", "MIN_VALUE", "\\w+Exact", "java", "default\\s*->", "Object", "double", "float"};
    for (String word : never) {
      rule(6, !Pattern.compile("(?<![\\w.])" + word + "\\b").matcher(code).find(), "the word " + word);
    }
    rule(2, !code.contains("->") && !code.contains("::"), "a lambda or a method reference");
    rule(10, !Pattern.compile("\"\" *\\+|\\+ *\"\"").matcher(code).find(), "texts are joined by +");
    Set<String> library = new TreeSet<>();
    Matcher m = Pattern.compile("\\b(Math|Integer|Long|System|Arrays)\\.(\\w+)").matcher(code);
    while (m.find()) library.add(m.group());
    library.removeAll(Set.of("Math.min", "Math.max", "Math.abs", "Integer.bitCount", "System.arraycopy"));
    rule(4, library.isEmpty(), "the library: " + library);
  }

  private static void methods(String code) {
    List<String> names = new ArrayList<>();
    Set<String> publicNames = new TreeSet<>();
    String[] lines = code.split("\n", -1);
    Pattern head = Pattern.compile("^( +)((?:private |public |static |final )*)(?:int|boolean|void|String|\\w+\\[\\]) (\\w+)\\(([^)]*)\\) \\{$");
    for (int i = 0; i < lines.length; i++) {
      Matcher m = head.matcher(lines[i]);
      if (!m.find()) continue;
      if (m.group(2).contains("public")) publicNames.add(m.group(3)); else names.add(m.group(3));
      int end = i;
      while (end < lines.length && !lines[end].equals(m.group(1) + "}")) end++;
      rule(11, end - i < 60, m.group(3) + " has " + (end - i + 1) + " lines");
      rule(11, m.group(4).split(",").length <= 7, m.group(3) + " has too many parameters");
    }
    rule(11, names.size() > 20 && publicNames.size() == 39, "methods are not seen: " + names.size() + ", " + publicNames.size());
    for (String name : names) rule(1, !publicNames.contains(name), name + " is a public method's name too");
  }

  private static void classes() {
    Class<?>[] inside = OneCloth.class.getDeclaredClasses();
    rule(11, inside.length < 12, "there are too many classes");
    List<Class<?>> all = new ArrayList<>(List.of(inside));
    all.add(OneCloth.class);
    for (Class<?> one : all) {
      rule(2, one == OneCloth.class || Modifier.isStatic(one.getModifiers()), one + " is not static");
      int fields = 0;
      for (Field field : one.getDeclaredFields()) {
        boolean isStatic = Modifier.isStatic(field.getModifiers());
        fields += isStatic ? 0 : 1;
        rule(5, !isStatic || Modifier.isFinal(field.getModifiers()), field + " is static and not final");
      }
      rule(11, fields <= 20, one + " has " + fields + " fields");
    }
  }
}
