import java.io.IOException;
import java.nio.file.Files;
import java.nio.file.Path;
import java.util.ArrayList;
import java.util.BitSet;
import java.util.LinkedHashMap;
import java.util.List;
import java.util.Map;
import java.util.regex.Matcher;
import java.util.regex.Pattern;

/**
 * What the tests of the document's sentences share. Each test quotes the words that it is for; words that do not stand
 * in the document, and words of the document that no test quotes, are faults, so that none is forgotten.
 */
class Sentences {
  static final int BAD = OneCloth.BAD, NO = OneCloth.NO, FULL = OneCloth.FULL, NONE = OneCloth.NONE,
      NOTHING = OneCloth.NOTHING, KIND = OneCloth.KIND, INDEX = OneCloth.INDEX, SIZE = OneCloth.SIZE;
  static final int LEAST = Integer.MIN_VALUE, MOST = Integer.MAX_VALUE;

  /** By HOUR's rest by 10: how far SHADE lies beside THE CLOTH, and what a STALL loses in the sun. */
  static final int[] SLANT = {-2, -2, -1, -1, 0, 0, 0, 1, 1, 2}, LOSS = {4, 5, 6, 7, 8, 9, 8, 7, 6, 5};

  interface Act { int on(OneCloth x); }
  interface Made { OneCloth anew(); }

  private static final Map<String, String> sections = new LinkedHashMap<>();
  private static final Map<String, BitSet> quoted = new LinkedHashMap<>();
  private static String section = "";
  private static String sentence = "";
  private static int step = 0;
  private static int wrong = 0;
  private static int tests = 0;

  // ---- the document

  static void read(String[] args) throws IOException {
    Path root = Path.of(args.length > 0 ? args[0] : ".");
    String doc = Files.readString(root.resolve("../shared/DOC.md"));
    for (String part : doc.split("\n## ")) {
      int end = part.indexOf('\n');
      if (end < 0) continue;
      String title = part.substring(0, end);
      String body = part.substring(end);
      if (title.equals("What it is")) put("Use", body.substring(body.indexOf("An object is used")));
      if (title.equals("Terms")) readTerms(body.substring(0, body.indexOf("Ahead of the calls")));
      Matcher promise = Pattern.compile("(Promise \\d+): .*").matcher(title);
      if (promise.matches()) put(promise.group(1), body.replaceFirst("(?s)^\\s*`[^`]*`:", ""));
    }
  }

  private static void readTerms(String body) {
    String[] parts = body.replaceAll("```(text)?", " ").split("========");
    for (int i = 0; i < parts.length; i++) put("Terms " + i, i == 0 ? parts[i] : parts[i].replaceFirst("\\d", " "));
  }

  private static void put(String name, String body) {
    sections.put(name, body.replaceAll("\\s+", " ").trim());
    quoted.put(name, new BitSet());
  }

  static void in(String name) {
    section = name;
    sentence = "";
    if (!sections.containsKey(name)) fault("there is no such section in the document");
  }

  /** The words that are tested from here on. */
  static void sentence(String words) {
    sentence = words;
    step = 0;
    tests++;
    String body = sections.getOrDefault(section, "");
    int at = body.indexOf(words);
    if (at < 0) fault("these words do not stand there");
    for (; at >= 0; at = body.indexOf(words, at + 1)) quoted.get(section).set(at, at + words.length());
  }

  /** All sections whose names begin so must have been quoted from end to end. */
  static void end(String... prefixes) {
    for (String name : sections.keySet()) {
      for (String prefix : prefixes) if (name.startsWith(prefix)) allQuoted(name);
    }
    System.out.println(wrong == 0 ? tests + " sentences hold" : wrong + " answers are not as due");
    if (wrong != 0) System.exit(1);
  }

  private static void allQuoted(String name) {
    StringBuilder left = new StringBuilder();
    String body = sections.get(name);
    for (int i = 0; i < body.length(); i++) left.append(quoted.get(name).get(i) ? ' ' : body.charAt(i));
    section = name;
    sentence = left.toString().trim();
    if (!sentence.isEmpty()) fault("no test quotes these words");
  }

  // ---- what is due

  private static void fault(String what) {
    wrong++;
    System.out.println(section + ", \"" + sentence + "\", step " + step + ": " + what);
  }

  static void due(int got, int want) {
    step++;
    if (got != want) fault("answered " + got + ", due is " + want);
  }

  /** The call is refused, and changes nothing that can be asked for. */
  static void refused(Made made, int want, Act act) {
    OneCloth x = made.anew();
    due(act.on(x), want);
    same(x, made.anew());
  }

  /** The call gives an answer, and changes nothing that can be asked for. */
  static void unchanged(Made made, int want, Act act) {
    refused(made, want, act);
  }

  static void same(OneCloth x, OneCloth y) {
    List<Integer> is = allOf(x);
    List<Integer> was = allOf(y);
    for (int i = 0; i < was.size(); i++) {
      if (!is.get(i).equals(was.get(i))) {
        fault("something is otherwise, at " + i + ": " + is.get(i) + ", due is " + was.get(i));
        return;
      }
    }
    step++;
  }

  /** All that can be asked of an object, in some 300 calls that use it up. */
  private static List<Integer> allOf(OneCloth x) {
    List<Integer> row = new ArrayList<>();
    bazaarOf(x, row);
    for (int slot = 0; slot < 5; slot++) {
      for (int kind = 0; kind < 6; kind++) row.add(x.ask(slot, kind));
      for (int place = 0; place < 9; place++) row.add(x.item(slot, place));
      row.add(x.rest(slot, 1000003));
    }
    for (int sheet = 0; sheet < 4; sheet++) {
      row.add(x.reads(sheet));
      row.add(x.lay(0, 2, sheet));
      for (int place = 0; place < 9; place++) row.add(x.item(0, place));
      row.add(x.mark(sheet, 0, NONE));
    }
    row.add(x.check(30));
    row.add(x.text());
    row.add(x.fee());
    row.add(x.back());
    bazaarOf(x, row);
    return row;
  }

  private static void bazaarOf(OneCloth x, List<Integer> row) {
    for (int i = 0; i < 7; i++) row.add(x.count(i));
    for (int i = 0; i < 4; i++) row.add(x.cloth(i));
    for (int i = 0; i < 3; i++) row.add(x.book(i));
    for (int i = 0; i < 3; i++) row.add(x.why(i));
    for (int i = 0; i < 9; i++) for (int what = 0; what < 4; what++) row.add(x.told(i, what));
    for (int i = 0; i < 14; i += 3) row.add(x.textTold(i, 1));
    row.add(x.fee());
    row.add(x.fine(0));
  }

  // ---- objects

  /** Something of everything, and room for more: SHEET 2 is MISSING, SLOT 4 holds nothing, STALL 4 is not in THE IMAGE. */
  static OneCloth busy() {
    OneCloth x = new OneCloth();
    x.seed(5);
    x.rule(2, 40);
    x.stall(0, 3, 10);
    x.stall(1, 7, 20);
    x.stall(4, 0, 5);
    x.stall(5, 11, 30);
    text(x, "fee c+t");
    text(x, "melt h/4");
    x.rule(0, 2);
    x.rule(3, 1);
    x.hours(3);
    x.keep();
    x.tell(x.behind(1, 0));
    x.tell(x.behind(1, 2));
    x.tell(x.behind(2, 0));
    x.hours(4);
    x.stall(3, 5, 40);
    text(x, "fine g-s");
    x.sheet(0, 0, 6);
    x.sheet(1, 1, 4);
    x.sheet(3, 0, 0);
    for (int i = 0; i < 6; i++) x.mark(0, i, 10 + i);
    for (int i = 0; i < 4; i++) x.mark(1, i, i == 2 ? NONE : 70000 + i);
    x.lay(0, 1, 1);
    x.lay(1, 2, 0);
    x.lay(2, 3, 17);
    x.lay(3, 2, 1);
    feed(x, "fee 7*c  + t");
    return x;
  }

  /** Full of STALLS, of TEXTS, of bytes, of numbers that wait. */
  static OneCloth full() {
    OneCloth x = still();
    for (int i = 0; i < 9; i++) x.stall(i % 6, i, i);
    for (int i = 0; i < 14; i++) text(x, "fee " + i);
    feed(x, "fee " + " ".repeat(91) + "3");
    for (int i = 0; i < 60; i++) x.tell(i);
    return x;
  }

  /** Without wind. */
  static OneCloth still() {
    OneCloth x = new OneCloth();
    x.rule(2, 0);
    return x;
  }

  /** Without wind, at an HOUR. */
  static OneCloth at(int hour) {
    OneCloth x = still();
    for (int left = hour; left > 0; left -= 100) x.hours(Math.min(100, left));
    return x;
  }

  /** At an HOUR, without wind, with FIRST and WIDTH. */
  static OneCloth at(int hour, int first, int width) {
    OneCloth x = at(hour);
    x.rule(1, width);
    x.rule(0, first);
    return x;
  }

  static int[] outside(int least, int most) {
    return new int[] {LEAST, least - 1, most + 1, MOST};
  }

  // ---- texts

  static void feed(OneCloth x, String bytes) {
    StringBuilder b = new StringBuilder(bytes);
    while (b.length() % 12 != 0) b.append(' ');
    for (int i = 0; i < b.length(); i += 12) x.feed(number(b, i), number(b, i + 4), number(b, i + 8));
    if (b.length() != bytes.length()) x.trim(bytes.length());
  }

  private static int number(CharSequence s, int at) {
    return s.charAt(at) << 24 | s.charAt(at + 1) << 16 | s.charAt(at + 2) << 8 | s.charAt(at + 3);
  }

  static int text(OneCloth x, String bytes) {
    x.trim(0);
    feed(x, bytes);
    return x.text();
  }

  /** What fee gives on a new object by this text, which must be one. */
  static void gives(String bytes, int want) {
    OneCloth x = new OneCloth();
    due(text(x, bytes), 0);
    due(x.fee(), want);
  }

  static void faultAt(String bytes, int place) {
    OneCloth x = new OneCloth();
    int got = text(x, bytes);
    due(got, -100 - place);
    if (got != -100 - place) System.out.println("  (the text: " + bytes + ")");
  }

  // ---- draws

  static int next(int z) { return z * 1103515245 + 12345; }

  static int rest(int z, int by) { return (z >>> 8) % by; }

  /** A z whose next draw has this rest by 100, and the one behind it this one by 3. */
  static int seedOf(int restBy100, int restBy3) {
    for (int z = 0; z < 100000; z++) {
      if (rest(next(z), 100) == restBy100 && rest(next(next(z)), 3) == restBy3) return z;
    }
    fault("no such seed");
    return 0;
  }

  /** A z with which, at GUST 100, the first wind blows by so many PLACES up. */
  static int windOf(int by) {
    return seedOf(50, by + 1);
  }
}
