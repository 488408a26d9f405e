import java.lang.reflect.Method;
import java.util.ArrayList;
import java.util.Arrays;
import java.util.List;
import java.util.Random;

/**
 * Long runs of drawn calls, on OneCloth and on a second reading of the document (Model below), which is written
 * in another way on purpose: kinds as classes, states as clones, texts as words that are split at their signs.
 */
public final class ModelRuns {
  static final int BAD = -1000000001, NO = -1000000002, FULL = -1000000003, NONE = -1000000005,
      NOTHING = -1000000011, KIND = -1000000012, INDEX = -1000000013, SIZE = -1000000014;

  public static void main(String[] args) throws Exception {
    int runs = args.length > 1 ? Integer.parseInt(args[1]) : 500;
    int wrong = 0;
    long refused = 0;
    long calls = 0;
    for (int run = 0; run < runs && wrong == 0; run++) {
      OneCloth x = new OneCloth();
      Model model = new Model();
      Drawn drawn = new Drawn(run, model);
      List<String> story = new ArrayList<>();
      for (int i = 0; i < 512 && wrong == 0; i++) {
        Call call = drawn.next();
        int want = call.on(model);
        int got = call.on(x);
        calls++;
        refused += want <= BAD && want >= SIZE ? 1 : 0;
        story.add(call + " answered " + got + ", due is " + want);
        if (got != want) {
          wrong++;
          System.out.println("run " + run + ":");
          for (String line : story.subList(Math.max(0, story.size() - 40), story.size())) System.out.println("  " + line);
        }
      }
    }
    System.out.println(calls + " calls, of them refused: " + refused);
    if (wrong != 0) System.exit(1);
  }

  static final class Call {
    final String name;
    final int[] args;
    Call(String name, int... args) { this.name = name; this.args = args; }
    int on(Object o) throws Exception {
      Class<?>[] types = new Class<?>[args.length];
      Object[] values = new Object[args.length];
      for (int i = 0; i < args.length; i++) { types[i] = int.class; values[i] = args[i]; }
      Method m = o.getClass().getDeclaredMethod(name, types);
      m.setAccessible(true);
      return (Integer) m.invoke(o, values);
    }
    @Override public String toString() { return name + Arrays.toString(args); }
  }

  /** Draws calls; those of one text come one behind the other. */
  static final class Drawn {
    final Random r;
    final boolean wild;
    final List<Call> planned = new ArrayList<>();
    final int hoursWeight;
    final Model model;
    Drawn(int seed, Model model) {
      this.model = model;
      r = new Random(seed);
      wild = seed % 4 == 3;
      hoursWeight = seed % 3;
      if (seed % 10 == 9) planLastHours();
    }

    /** Up to a few HOURS ahead of the last one that there is. */
    void planLastHours() {
      planned.add(new Call("deal", 1 + r.nextInt(9)));
      for (int i = 0; i < 99; i++) planned.add(new Call("hours", 100));
      planned.add(new Call("hours", 60 + r.nextInt(41)));
      planned.add(new Call("keep"));
    }

    static final int[] EDGES = {Integer.MIN_VALUE, Integer.MAX_VALUE, NONE, BAD, -1, 0, 1, 65536, 40000, -40000, 99999, 100000, -99999, -100000, 999, 1000, 9999, 10000};

    int pick(int least, int most) {
      int wildness = wild ? 6 : 25;
      if (r.nextInt(wildness) == 0) return EDGES[r.nextInt(EDGES.length)];
      if (r.nextInt(wildness) == 0) return r.nextBoolean() ? most + 1 : least - 1;
      return least + r.nextInt(most - least + 1);
    }

    Call next() {
      if (!planned.isEmpty()) return planned.remove(0);
      switch (r.nextInt(47)) {
        case 0: return new Call("stall", pick(0, 5), pick(0, 11), pick(0, 99));
        case 1: return new Call("told", pick(0, 8), pick(0, 6));
        case 2: return new Call("as", pick(0, 8), pick(0, 5));
        case 3: return new Call("turns", pick(0, 8), pick(0, 5));
        case 4: return new Call("set", pick(0, 8), pick(1, 3), pick(0, r.nextInt(3) == 0 ? 999 : 11));
        case 5: return new Call("cloth", pick(0, 6));
        case 6: return new Call("rule", 0, pick(0, 11));
        case 7: return new Call("rule", pick(0, 3), pick(0, r.nextBoolean() ? 6 : 100));
        case 8: return new Call("deal", pick(1, 9) / (r.nextBoolean() ? 1 : 3));
        case 9: return new Call("seed", r.nextInt());
        case 10: return new Call("hours", r.nextInt(20) < hoursWeight ? 100 : pick(1, r.nextInt(4) == 0 ? 100 : 5));
        case 11: return new Call("book", pick(0, 3));
        case 12: return new Call("behind", pick(0, 100), pick(0, 3));
        case 13: return new Call("goods", pick(0, 8), pick(0, 100));
        case 14: return new Call("best", pick(1, 5), pick(0, 1));
        case 15: return new Call("wider", pick(0, r.nextBoolean() ? 9999 : 900), pick(1, 60));
        case 16: return new Call("shaded", pick(0, 8), pick(1, 60));
        case 17: return new Call("without", pick(1, 60), pick(0, 1));
        case 18: return new Call("whose", pick(0, 3), pick(0, 60), pick(0, 1));
        case 19: return new Call("fee");
        case 20: return new Call("fine", pick(0, 8));
        case 21: return new Call("feed", r.nextInt(), r.nextInt(), r.nextInt());
        case 22: return new Call("trim", pick(0, 96));
        case 23: return new Call("text");
        case 24: return new Call("textTold", pick(0, 13), pick(0, 1));
        case 25: return new Call("why", pick(0, 2));
        case 26: return new Call("sheet", pick(0, 3), pick(r.nextInt(3) == 0 ? -1 : 0, 1), pick(0, 24));
        case 27: return new Call("mark", pick(0, 3), pick(0, 11), pick(-5, 200));
        case 28: return new Call("mark", pick(0, 3), pick(0, 8), r.nextInt(3) == 0 ? NONE : pick(0, 1000));
        case 29: return new Call("pour", pick(0, 3));
        case 30: return new Call("reads", pick(0, 3));
        case 31: return new Call("copy", pick(0, 3), pick(0, 6), pick(0, 3), pick(0, 6), pick(0, 8));
        case 32: return new Call("lay", pick(0, 4), pick(0, 3), pick(0, r.nextBoolean() ? 8 : 3));
        case 33: return new Call("ask", pick(0, 4), pick(0, 5));
        case 34: return new Call("item", pick(0, 4), pick(0, 12));
        case 35: return new Call("rest", pick(0, 4), pick(-3, 9));
        case 36: return new Call("tell", pick(0, 12));
        case 37: return new Call("check", pick(1, 30));
        case 38: return new Call("keep");
        case 39: return r.nextInt(3) == 0 ? new Call("back") : new Call("count", 0);
        case 40: return new Call("count", pick(0, 6));
        case 41: case 42: case 43: return planText();
        case 44: return planSpoilSheet();
        case 45: return planCheck();
        default: return new Call("rule", 3, pick(0, 2));
      }
    }

    /** A sheet of what the stalls seem to lose, so that reads goes far. */
    Call planSpoilSheet() {
      for (int i = 0; i < 9; i++) planned.add(new Call("mark", 0, i, r.nextInt(4) == 0 ? NONE : r.nextInt(3) == 0 ? 2 : 0));
      planned.add(new Call("reads", 0));
      planned.add(new Call("whose", 0, r.nextInt(60), 1));
      return new Call("sheet", 0, 1, r.nextInt(12));
    }

    /** What is due by THE IMAGE, at times with one number too many, too few, or another one. */
    Call planCheck() {
      int n = 1 + r.nextInt(30);
      planned.add(new Call("check", 1 + r.nextInt(30)));
      State a = model.image == null ? model.s.twin() : model.image.twin();
      List<Integer> due = new ArrayList<>();
      for (int i = 0; i < n && a.hour < 9999; i++) { a.hour(a.step()); due.add(a.spoilt); due.add(a.first); }
      int otherwise = r.nextInt(6);
      if (otherwise == 0) due.add(7);
      if (otherwise == 1 && !due.isEmpty()) due.remove(due.size() - 1);
      if (otherwise == 2 && !due.isEmpty()) due.set(r.nextInt(due.size()), 12);
      for (int v : due) planned.add(new Call("tell", v));
      planned.add(new Call("check", n));
      return new Call("count", 4);
    }

    Call planText() {
      String text = drawText();
      if (r.nextInt(4) == 0 && !text.isEmpty()) text = spoil(text);
      if (text.length() > 96) text = text.substring(0, 96);
      int length = text.length();
      StringBuilder padded = new StringBuilder(text);
      while (padded.length() % 12 != 0) padded.append(' ');
      for (int i = 0; i < padded.length(); i += 12) {
        planned.add(new Call("feed", number(padded, i), number(padded, i + 4), number(padded, i + 8)));
      }
      planned.add(new Call("count", 5));
      if (r.nextBoolean()) planned.add(new Call("trim", length));
      planned.add(new Call("text"));
      planned.add(new Call("why", r.nextInt(3)));
      planned.add(new Call("textTold", r.nextInt(14), 1));
      planned.add(new Call("fee"));
      planned.add(new Call("fine", r.nextInt(4)));
      planned.add(new Call("told", r.nextInt(4), 4));
      return new Call("trim", 0);
    }

    static int number(CharSequence s, int at) {
      return s.charAt(at) << 24 | s.charAt(at + 1) << 16 | s.charAt(at + 2) << 8 | s.charAt(at + 3);
    }

    String spoil(String text) {
      int at = r.nextInt(text.length());
      String signs = "()!&|<=>+-*/ 0123456789hgpctsmeltfine\u00ff\u0000A";
      char c = signs.charAt(r.nextInt(signs.length()));
      switch (r.nextInt(3)) {
        case 0: return text.substring(0, at) + text.substring(at + 1);
        case 1: return text.substring(0, at) + c + text.substring(at);
        default: return text.substring(0, at) + c + text.substring(at + 1);
      }
    }

    String drawText() {
      int key = r.nextInt(3);
      String names = new String[] {"hgp", "ct", "gs"}[key];
      String word = new String[] {"melt", "fee", "fine"}[key];
      StringBuilder b = new StringBuilder(blanks()).append(word).append(r.nextInt(8) == 0 ? "" : " ");
      if (r.nextInt(8) == 0) {
        String ahead = r.nextBoolean() ? "(" : r.nextBoolean() ? "!" : "!(";
        int many = 6 + r.nextInt(4);
        for (int i = 0; i < many; i++) b.append(ahead);
        b.append(names.charAt(0));
        if (ahead.endsWith("(")) for (int i = 0; i < many; i++) b.append(')');
        return b.toString();
      }
      return b.append(drawOr(names, 1 + r.nextInt(4))).append(blanks()).toString();
    }

    String blanks() { return r.nextInt(6) == 0 ? " ".repeat(1 + r.nextInt(3)) : ""; }

    String drawOr(String names, int depth) {
      StringBuilder b = new StringBuilder(drawPiece(names, depth));
      int more = depth == 0 ? 0 : r.nextInt(4);
      String signs = "&|<=>+-*/+-*/";
      for (int i = 0; i < more; i++) {
        b.append(blanks()).append(signs.charAt(r.nextInt(signs.length()))).append(blanks()).append(drawPiece(names, depth));
      }
      return b.toString();
    }

    String drawPiece(String names, int depth) {
      switch (depth == 0 ? r.nextInt(2) : r.nextInt(4)) {
        case 0: return Integer.toString(r.nextInt(r.nextBoolean() ? 10 : r.nextInt(10) == 0 ? 20000 : 10000));
        case 1: return "" + names.charAt(r.nextInt(names.length()));
        case 2: return "!" + drawPiece(names, depth - 1);
        default: return "(" + blanks() + drawOr(names, depth - 1) + blanks() + ")";
      }
    }
  }

  // ------------------------------------------------------------------ the second reading

  static class Goods {
    int place, goods = 100, pay;
    int number() { return 0; }
    int sun(int plain) { return plain; }
    int shade() { return 0; }
    int worth() { return pay; }
    static Goods of(int kind) {
      switch (kind) {
        case 0: return new Goods();
        case 1: return new Fish();
        case 2: return new Blind();
        case 3: return new Butter();
        case 4: return new Holy();
        default: return new Idle();
      }
    }
    boolean is(int kind) { return Goods.of(kind).getClass().isInstance(this); }
    Goods turned(int kind) { Goods g = of(kind); g.place = place; g.goods = goods; g.pay = pay; return g; }
    Goods twin() { return turned(number()); }
  }
  static class Fish extends Goods {
    @Override int number() { return 1; }
    @Override int sun(int plain) { return 2 * super.sun(plain); }
    @Override int worth() { return super.worth() + 6; }
  }
  static final class Butter extends Fish {
    @Override int number() { return 3; }
    @Override int sun(int plain) { return super.sun(plain) + 5; }
    @Override int worth() { return 2 * super.worth(); }
  }
  static class Blind extends Goods {
    @Override int number() { return 2; }
    @Override int sun(int plain) { return 0; }
    @Override int worth() { return 99 - pay; }
  }
  static final class Holy extends Blind {
    @Override int number() { return 4; }
    @Override int shade() { return 2; }
    @Override int worth() { return super.worth() - 8; }
  }
  static final class Idle extends Goods {
    @Override int number() { return 5; }
    @Override int sun(int plain) { return super.sun(plain) / 2; }
    @Override int worth() { return 2; }
  }

  static final class Word {
    final String s; final int at; final boolean glued;
    Word(String s, int at, boolean glued) { this.s = s; this.at = at; this.glued = glued; }
    boolean letters() { return s.matches("[a-z]+"); }
    boolean digits() { return s.matches("[0-9]+"); }
  }

  static final class Law {
    int key; List<Word> words;
    int value(int... v) {
      String names = Model.NAMES[key];
      return value(0, words.size(), names, v);
    }
    int leaves() { int n = 0; for (Word w : words) if (w.letters() || w.digits()) n++; return n; }
    int value(int lo, int hi, String names, int[] v) {
      for (String signs : new String[] {"|", "&", "<=>", "+-", "*/"}) {
        int depth = 0;
        for (int i = hi - 1; i > lo; i--) {
          String s = words.get(i).s;
          if (s.equals(")")) depth++;
          if (s.equals("(")) depth--;
          if (depth == 0 && s.length() == 1 && signs.contains(s)) {
            return join(s.charAt(0), value(lo, i, names, v), value(i + 1, hi, names, v));
          }
        }
      }
      Word w = words.get(lo);
      if (w.s.equals("!")) return value(lo + 1, hi, names, v) == 0 ? 1 : 0;
      if (w.s.equals("(")) return value(lo + 1, hi - 1, names, v);
      return w.digits() ? Integer.parseInt(w.s) : v[names.indexOf(w.s)];
    }
    static int join(char sign, int a, int b) {
      switch (sign) {
        case '|': return a != 0 | b != 0 ? 1 : 0;
        case '&': return a != 0 & b != 0 ? 1 : 0;
        case '<': return a < b ? 1 : 0;
        case '=': return a == b ? 1 : 0;
        case '>': return a > b ? 1 : 0;
        case '+': return a + b;
        case '-': return a - b;
        case '*': return a * b;
        default: return b == 0 ? 0 : a / b;
      }
    }
  }

  static final class State {
    List<Goods> stalls = new ArrayList<>();
    List<Law> laws = new ArrayList<>();
    int width = 3, first, hour, gust = 10, mode, coins, spoilt, torn, z = 1;
    State twin() {
      State s = new State();
      for (Goods g : stalls) s.stalls.add(g.twin());
      s.laws.addAll(laws);
      s.width = width; s.first = first; s.hour = hour; s.gust = gust; s.mode = mode;
      s.coins = coins; s.spoilt = spoilt; s.torn = torn; s.z = z;
      return s;
    }
    int draw() { z = z * 1103515245 + 12345; return z >>> 8; }
    int t() { return hour % 10; }
    int o() { return new int[] {-2, -2, -1, -1, 0, 0, 0, 1, 1, 2}[t()]; }
    int heat() { return new int[] {20, 25, 30, 35, 40, 45, 40, 35, 30, 25}[t()]; }
    boolean shade(Goods g) { return shadeFrom(first, g); }
    boolean shadeFrom(int f, Goods g) { return g.place >= f + o() && g.place <= f + width + o() - 1; }
    int why(int key) { for (int i = laws.size() - 1; i >= 0; i--) if (laws.get(i).key == key) return i; return NONE; }
    int spoils(Goods g) {
      int plain = heat() / 5;
      if (why(0) != NONE) plain = Math.min(Math.max(laws.get(why(0)).value(heat(), g.goods, g.pay), 0), g.goods);
      return Math.min(g.goods, shade(g) ? g.shade() : g.sun(plain));
    }
    int bound(int f) { return Math.max(0, Math.min(12 - width, f)); }
    int step() {
      if (mode == 1) {
        Goods worst = null;
        for (Goods g : stalls) if (!shade(g) && spoils(g) > 0 && (worst == null || spoils(g) > spoils(worst))) worst = g;
        return worst == null ? 0 : worst.place < first + o() ? -1 : 1;
      }
      if (mode == 2) {
        int[] steps = {0, -1, 1};
        int best = 0;
        for (int i = 1; i < 3; i++) if (pays(bound(first + steps[i])) > pays(bound(first + steps[best]))) best = i;
        return steps[best];
      }
      return 0;
    }
    int pays(int f) { int sum = 0; for (Goods g : stalls) if (shadeFrom(f, g)) sum += g.pay; return sum; }
    /** The stalls in SHADE at (2). */
    List<Goods> hour(int step) {
      List<Goods> shaded = new ArrayList<>();
      first = bound(first + step);
      for (Goods g : stalls) {
        int gone = spoils(g);
        if (shade(g)) { coins += g.pay; shaded.add(g); }
        g.goods -= gone;
        spoilt += gone;
      }
      if (draw() % 100 < gust) {
        int up = draw() % 3 - 1;
        first = bound(first + up);
        if (up != 0) torn++;
      }
      hour++;
      return shaded;
    }
    State after(int n) { State s = twin(); for (int i = 0; i < n; i++) s.hour(s.step()); return s; }
  }

  static final class Row {
    final boolean floats; final float[] v;
    Row(boolean floats, int n) { this.floats = floats; v = new float[n]; }
    Row twin() { Row r = new Row(floats, v.length); System.arraycopy(v, 0, r.v, 0, v.length); return r; }
    boolean number(int i) { return i < v.length && !Float.isNaN(v[i]); }
  }

  static final class Model {
    static final String[] KEYS = {"melt", "fee", "fine"}, NAMES = {"hgp", "ct", "gs"};
    State s = new State(), image;
    StringBuilder tape = new StringBuilder();
    Row[] sheets = new Row[4];
    Object[] slots = new Object[5];
    List<Integer> waiting = new ArrayList<>();

    boolean no(int v, int least, int most) { return v < least || v > most; }
    boolean noStall(int k) { return no(k, 0, s.stalls.size() - 1); }

    int stall(int kind, int place, int pay) {
      if (no(kind, 0, 5) || no(place, 0, 11) || no(pay, 0, 99)) return BAD;
      if (s.stalls.size() == 9) return FULL;
      Goods g = Goods.of(kind);
      g.place = place;
      g.pay = pay;
      s.stalls.add(g);
      return s.stalls.size() - 1;
    }
    int told(int k, int what) {
      if (noStall(k) || no(what, 0, 6)) return BAD;
      Goods g = s.stalls.get(k);
      return new int[] {g.number(), g.place, g.goods, g.pay, s.spoils(g), s.shade(g) ? 1 : 0, g.worth()}[what];
    }
    int as(int k, int kind) {
      if (noStall(k) || no(kind, 0, 5)) return BAD;
      return s.stalls.get(k).is(kind) ? s.stalls.get(k).pay : KIND;
    }
    int turns(int k, int kind) {
      if (noStall(k) || no(kind, 0, 5)) return BAD;
      Goods was = s.stalls.set(k, s.stalls.get(k).turned(kind));
      return was.number();
    }
    int set(int k, int what, int v) {
      if (noStall(k) || no(what, 1, 3) || no(v, 0, new int[] {0, 11, 999, 99}[what])) return BAD;
      Goods g = s.stalls.get(k);
      int was = told(k, what);
      if (what == 1) g.place = v; else if (what == 2) g.goods = v; else g.pay = v;
      return was;
    }
    int cloth(int what) {
      if (no(what, 0, 6)) return BAD;
      int set = 0;
      for (int i = 0; i < s.stalls.size(); i++) if (s.shade(s.stalls.get(i))) set += 1 << i;
      int from = Math.max(0, s.first + s.o()), to = Math.min(11, s.first + s.width + s.o() - 1);
      return new int[] {s.first, s.width, s.gust, s.mode, s.heat(), from <= to ? from : NONE, set}[what];
    }
    int rule(int what, int v) {
      if (no(what, 0, 3)) return BAD;
      if (no(v, new int[] {0, 1, 0, 0}[what], new int[] {12 - s.width, 6, 100, 2}[what])) return BAD;
      int was = cloth(what);
      if (what == 0) s.first = v;
      if (what == 1) { s.width = v; s.first = s.bound(s.first); }
      if (what == 2) s.gust = v;
      if (what == 3) s.mode = v;
      return was;
    }
    int deal(int n) {
      if (no(n, 1, 9)) return BAD;
      int came = 0;
      while (came < n && s.stalls.size() < 9) { stall(s.draw() % 6, s.draw() % 12, s.draw() % 40); came++; }
      return came;
    }
    int seed(int v) { int was = s.z; s.z = v; return was; }
    int hours(int n) {
      if (no(n, 1, 100)) return BAD;
      int was = s.spoilt;
      for (int i = 0; i < n && s.hour < 9999; i++) s.hour(s.step());
      return s.spoilt - was;
    }
    int book(int what) {
      if (no(what, 0, 3)) return BAD;
      return new int[] {s.spoilt, s.coins, s.torn, s.stalls.stream().mapToInt(g -> g.goods).sum()}[what];
    }
    int behind(int n, int what) {
      if (no(n, 0, 100) || no(what, 0, 3)) return BAD;
      State a = s.after(n);
      return new int[] {a.spoilt, a.coins, a.first, a.torn}[what];
    }
    int goods(int k, int n) { return noStall(k) || no(n, 0, 100) ? BAD : s.after(n).stalls.get(k).goods; }
    int best(int n, int what) {
      if (no(n, 1, 5) || no(what, 0, 1)) return BAD;
      int rows = (int) Math.round(Math.pow(3, n)), digits = -1, least = 0;
      for (int row = 0; row < rows; row++) {
        State a = s.twin();
        for (int i = 0, high = rows / 3; i < n; i++, high /= 3) a.hour(new int[] {0, -1, 1}[row / high % 3]);
        if (digits < 0 || a.spoilt < least) { digits = row; least = a.spoilt; }
      }
      return what == 0 ? digits : least;
    }
    int wider(int w, int n) {
      if (no(w, 0, 9999) || no(n, 1, 60)) return BAD;
      for (int width = 1; width <= 6; width++) {
        State a = s.twin();
        a.width = width;
        a.first = a.bound(a.first);
        if (a.after(n).spoilt <= w) return width;
      }
      return NONE;
    }
    int shaded(int k, int n) {
      if (noStall(k) || no(n, 1, 60)) return BAD;
      State a = s.twin();
      int times = 0;
      for (int i = 0; i < n; i++) if (a.hour(a.step()).contains(a.stalls.get(k))) times++;
      return times;
    }
    int without(int n, int what) {
      if (no(n, 1, 60) || no(what, 0, 1)) return BAD;
      int found = NONE, coins = NONE;
      for (int k = 0; k < s.stalls.size(); k++) {
        State a = s.twin();
        a.stalls.get(k).pay = 0;
        int then = a.after(n).coins;
        if (found == NONE || then > coins) { found = k; coins = then; }
      }
      return what == 0 ? found : coins;
    }
    int whose(int sheet, int n, int what) {
      if (no(sheet, 0, 3) || no(n, 0, 60) || no(what, 0, 1)) return BAD;
      if (sheets[sheet] == null) return NOTHING;
      int found = -1, least = 0;
      for (int mode = 0; mode < 3; mode++) {
        State a = s.twin();
        a.mode = mode;
        a = a.after(n);
        int sum = 0;
        for (int k = 0; k < a.stalls.size(); k++) if (sheets[sheet].number(k)) sum += Math.abs(a.stalls.get(k).goods - (int) sheets[sheet].v[k]);
        if (found < 0 || sum < least) { found = mode; least = sum; }
      }
      return what == 0 ? found : least;
    }
    int fee() { return s.why(1) == NONE ? s.coins : s.laws.get(s.why(1)).value(s.coins, s.torn); }
    int fine(int k) {
      if (noStall(k)) return BAD;
      Goods g = s.stalls.get(k);
      return s.why(2) == NONE ? g.goods : s.laws.get(s.why(2)).value(g.goods, s.shade(g) ? 1 : 0);
    }
    int feed(int a, int b, int c) {
      if (tape.length() > 84) return FULL;
      for (int v : new int[] {a, b, c}) {
        tape.append((char) (v >>> 24)).append((char) (v >>> 16 & 255)).append((char) (v >>> 8 & 255)).append((char) (v & 255));
      }
      return tape.length();
    }
    int trim(int n) {
      if (no(n, 0, tape.length())) return BAD;
      tape.setLength(n);
      return n;
    }
    int text() {
      String t = tape.toString();
      tape.setLength(0);
      List<Word> words = words(t);
      int fault = fault(words, t.length());
      if (fault >= 0) return -100 - fault;
      if (s.laws.size() == 14) return FULL;
      Law law = new Law();
      law.key = Arrays.asList(KEYS).indexOf(words.get(0).s);
      law.words = words.subList(1, words.size());
      s.laws.add(law);
      return s.laws.size() - 1;
    }
    static List<Word> words(String t) {
      List<Word> words = new ArrayList<>();
      int i = 0;
      while (i < t.length()) {
        if (t.charAt(i) == ' ') { i++; continue; }
        int to = i + 1;
        String of = isIn(t.charAt(i), 'a', 'z') ? "az" : isIn(t.charAt(i), '0', '9') ? "09" : null;
        while (of != null && to < t.length() && isIn(t.charAt(to), of.charAt(0), of.charAt(1))) to++;
        Word last = words.isEmpty() ? null : words.get(words.size() - 1);
        boolean glued = of != null && last != null && (last.letters() || last.digits()) && last.at + last.s.length() == i;
        words.add(new Word(t.substring(i, to), i, glued));
        i = to;
      }
      return words;
    }
    static boolean isIn(char c, char from, char to) { return c >= from && c <= to; }
    /** By states alone: whether a piece is due, what is open, whether a test stands already in this bracket. */
    static int fault(List<Word> words, int end) {
      if (words.isEmpty()) return end;
      int key = Arrays.asList(KEYS).indexOf(words.get(0).s);
      if (key < 0) return words.get(0).at;
      boolean due = true;
      List<Character> open = new ArrayList<>();
      List<Boolean> tested = new ArrayList<>(List.of(false));
      for (Word w : words.subList(1, words.size())) {
        if (w.glued) return w.at;
        boolean ends = false;
        if (due) {
          if (w.s.equals("!") || w.s.equals("(")) {
            char c = w.s.charAt(0);
            if (open.stream().filter(x -> x == c).count() == 8) return w.at;
            open.add(c);
            if (c == '(') tested.add(false);
          } else if (w.digits() && w.s.length() <= 4 || w.letters() && w.s.length() == 1 && NAMES[key].contains(w.s)) {
            ends = true;
          } else {
            return w.at;
          }
        } else if (w.s.equals(")") && open.contains('(')) {
          open.remove(open.size() - 1);
          tested.remove(tested.size() - 1);
          ends = true;
        } else if (w.s.length() == 1 && "+-*/&|<=>".contains(w.s)) {
          int last = tested.size() - 1;
          if ("<=>".contains(w.s)) {
            if (tested.get(last)) return w.at;
            tested.set(last, true);
          }
          if ("&|".contains(w.s)) tested.set(last, false);
          due = true;
        } else {
          return w.at;
        }
        if (ends) {
          due = false;
          while (!open.isEmpty() && open.get(open.size() - 1) == '!') open.remove(open.size() - 1);
        }
      }
      return due || !open.isEmpty() ? end : -1;
    }
    int textTold(int text, int what) {
      if (no(text, 0, s.laws.size() - 1) || no(what, 0, 1)) return BAD;
      return what == 0 ? s.laws.get(text).key : s.laws.get(text).leaves();
    }
    int why(int key) { return no(key, 0, 2) ? BAD : s.why(key); }
    int sheet(int sheet, int sort, int n) {
      if (no(sheet, 0, 3) || no(sort, -1, 1) || sort >= 0 && n > 24) return BAD;
      if (sort == -1) { sheets[sheet] = null; return 0; }
      if (n < 0) return SIZE;
      sheets[sheet] = new Row(sort == 1, n);
      return n;
    }
    int mark(int sheet, int place, int v) {
      if (no(sheet, 0, 3)) return BAD;
      Row row = sheets[sheet];
      if (row == null) return NOTHING;
      if (no(place, 0, row.v.length - 1)) return INDEX;
      if (!row.floats && v == NONE) return KIND;
      if (row.floats && v != NONE && no(v, -99999, 99999)) return BAD;
      row.v[place] = !row.floats ? (short) v : v == NONE ? Float.NaN : v;
      return 1;
    }
    int pour(int sheet) {
      if (no(sheet, 0, 3)) return BAD;
      if (sheets[sheet] == null) return NOTHING;
      int n = 0;
      for (int k = 0; k < s.stalls.size(); k++) {
        if (!sheets[sheet].number(k)) continue;
        int was = s.stalls.get(k).goods;
        s.stalls.get(k).goods = Math.max(0, Math.min(999, (int) sheets[sheet].v[k]));
        if (was != s.stalls.get(k).goods) n++;
      }
      return n;
    }
    int reads(int sheet) {
      if (no(sheet, 0, 3)) return BAD;
      if (sheets[sheet] == null) return NOTHING;
      for (int k = 0; k < sheets[sheet].v.length; k++) {
        if (!sheets[sheet].number(k)) continue;
        if (k >= s.stalls.size() || sheets[sheet].v[k] != s.spoils(s.stalls.get(k))) return k;
      }
      return NONE;
    }
    int copy(int from, int place, int to, int at, int many) {
      if (no(from, 0, 3) || no(to, 0, 3)) return BAD;
      if (sheets[from] == null || sheets[to] == null) return NOTHING;
      if (sheets[from].floats != sheets[to].floats) return KIND;
      try {
        System.arraycopy(sheets[from].v, place, sheets[to].v, at, many);
      } catch (IndexOutOfBoundsException e) {
        return INDEX;
      }
      return many;
    }
    int lay(int slot, int thing, int k) {
      if (no(slot, 0, 4) || no(thing, 0, 3) || thing == 1 && noStall(k) || thing == 2 && no(k, 0, 3)) return BAD;
      if (thing == 2 && sheets[k] == null) return NOTHING;
      int was = slots[slot] == null ? 0 : slots[slot] instanceof Goods ? 1 : slots[slot] instanceof Row ? 2 : 3;
      slots[slot] = thing == 0 ? null : thing == 1 ? s.stalls.get(k).twin() : thing == 2 ? sheets[k].twin() : (Object) k;
      return was;
    }
    int ask(int slot, int kind) {
      if (no(slot, 0, 4) || no(kind, 0, 5)) return BAD;
      if (slots[slot] == null) return NOTHING;
      return slots[slot] instanceof Goods && ((Goods) slots[slot]).is(kind) ? ((Goods) slots[slot]).worth() : KIND;
    }
    int item(int slot, int place) {
      if (no(slot, 0, 4)) return BAD;
      if (slots[slot] == null) return NOTHING;
      if (!(slots[slot] instanceof Row)) return KIND;
      Row row = (Row) slots[slot];
      if (no(place, 0, row.v.length - 1)) return INDEX;
      return row.number(place) ? (int) row.v[place] : KIND;
    }
    int rest(int slot, int n) {
      if (no(slot, 0, 4)) return BAD;
      if (slots[slot] == null) return NOTHING;
      if (!(slots[slot] instanceof Integer)) return KIND;
      return n == 0 ? NO : (Integer) slots[slot] % n;
    }
    int tell(int v) {
      if (waiting.size() == 60) return FULL;
      waiting.add(v);
      return waiting.size();
    }
    int check(int n) {
      List<Integer> told = waiting;
      waiting = new ArrayList<>();
      if (no(n, 1, 30)) return BAD;
      if (image == null) return NO;
      List<Integer> due = new ArrayList<>();
      State a = image.twin();
      for (int i = 0; i < n && a.hour < 9999; i++) { a.hour(a.step()); due.add(a.spoilt); due.add(a.first); }
      if (told.equals(due)) return 0;
      int same = 0;
      while (same < told.size() && same < due.size() && told.get(same).equals(due.get(same))) same++;
      return 1 + same;
    }
    int keep() { image = s.twin(); return s.stalls.size(); }
    int back() {
      if (image == null) return NO;
      s = image.twin();
      return s.stalls.size();
    }
    int count(int what) {
      if (no(what, 0, 6)) return BAD;
      return new int[] {s.stalls.size(), s.hour, Integer.bitCount(cloth(6)), s.laws.size(), waiting.size(), tape.length(), s.z}[what];
    }
  }
}
