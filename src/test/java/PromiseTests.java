/** For each promise of the document: ordinary inputs, the edges that it names, and wrong inputs, worked out by hand. */
public final class PromiseTests {
  private static final int BAD = OneCloth.BAD, NO = OneCloth.NO, FULL = OneCloth.FULL, NONE = OneCloth.NONE,
      NOTHING = OneCloth.NOTHING, KIND = OneCloth.KIND, INDEX = OneCloth.INDEX, SIZE = OneCloth.SIZE;
  private static final int LEAST = Integer.MIN_VALUE, MOST = Integer.MAX_VALUE;
  private static int wrong = 0;
  private static int promise = 0;
  private static int step = 0;

  private static void promise(int number) { promise = number; step = 0; }

  private static void due(int got, int want) {
    step++;
    if (got != want) {
      wrong++;
      System.out.println("promise " + promise + ", step " + step + ": answered " + got + ", due is " + want);
    }
  }

  /** THE TAPE holds just these bytes. */
  private static void tape(OneCloth x, String bytes) {
    x.trim(0);
    StringBuilder b = new StringBuilder(bytes);
    while (b.length() % 12 != 0) b.append(' ');
    for (int i = 0; i < b.length(); i += 12) x.feed(number(b, i), number(b, i + 4), number(b, i + 8));
    due(x.trim(bytes.length()), bytes.length());
  }

  private static int number(CharSequence s, int at) {
    return s.charAt(at) << 24 | s.charAt(at + 1) << 16 | s.charAt(at + 2) << 8 | s.charAt(at + 3);
  }

  private static int text(OneCloth x, String bytes) {
    tape(x, bytes);
    return x.text();
  }

  private static OneCloth still() {
    OneCloth x = new OneCloth();
    x.rule(2, 0);
    return x;
  }

  public static void main(String[] args) {
    newObject(); stall(); told(); as(); turns(); set(); cloth(); rule(); deal(); seed();
    hours(); haulingByLoss(); haulingByPay(); wind(); lastHour(); book();
    behind(); goods(); best(); wider(); shaded(); without(); whose(); fee(); fine();
    feed(); trim(); textFaults(); textValues(); textFull(); textTold(); why();
    sheet(); mark(); pour(); reads(); copy(); lay(); ask(); item(); rest();
    tell(); check(); keepAndBack(); count();
    System.out.println(wrong == 0 ? "all promises hold" : wrong + " answers are not as due");
    if (wrong != 0) System.exit(1);
  }

  private static void newObject() {
    promise(1);
    OneCloth x = new OneCloth();
    int[] counts = {0, 0, 0, 0, 0, 0, 1};
    for (int i = 0; i < counts.length; i++) due(x.count(i), counts[i]);
    int[] cloth = {0, 3, 10, 0, 20, 0, 0};
    for (int i = 0; i < cloth.length; i++) due(x.cloth(i), cloth[i]);
    for (int i = 0; i < 4; i++) due(x.book(i), 0);
    for (int i = 0; i < 4; i++) due(x.pour(i), NOTHING);
    for (int i = 0; i < 5; i++) due(x.rest(i, 1), NOTHING);
    for (int i = 0; i < 3; i++) due(x.why(i), NONE);
    due(x.back(), NO);
    int[] constants = {OneCloth.BAD, OneCloth.NO, OneCloth.FULL, OneCloth.NONE, OneCloth.NOTHING, OneCloth.KIND, OneCloth.INDEX, OneCloth.SIZE};
    int[] told = {1, 2, 3, 5, 11, 12, 13, 14};
    for (int i = 0; i < told.length; i++) due(constants[i], -1000000000 - told[i]);
  }

  private static void stall() {
    promise(2);
    OneCloth x = new OneCloth();
    due(x.stall(-1, 0, 0), BAD);
    due(x.stall(6, 0, 0), BAD);
    due(x.stall(0, -1, 0), BAD);
    due(x.stall(0, 12, 0), BAD);
    due(x.stall(0, 0, -1), BAD);
    due(x.stall(0, 0, 100), BAD);
    due(x.count(0), 0);
    for (int i = 0; i < 9; i++) due(x.stall(i % 6, 11, 99), i);
    due(x.told(8, 2), 100);
    due(x.told(8, 0), 2);
    due(x.stall(0, 0, 0), FULL);
    due(x.stall(6, 0, 0), BAD);
    due(x.count(0), 9);
  }

  private static void told() {
    promise(3);
    OneCloth x = new OneCloth();
    // At HOUR 0, HEAT is 20 and SHADE is PLACE 0 alone (o is -2).
    int[] inSun = {4, 8, 0, 13, 0, 2};
    int[] worth = {30, 36, 69, 72, 61, 2};
    for (int kind = 0; kind < 6; kind++) {
      x.stall(kind, 1, 30);
      due(x.told(kind, 0), kind);
      due(x.told(kind, 1), 1);
      due(x.told(kind, 2), 100);
      due(x.told(kind, 3), 30);
      due(x.told(kind, 4), inSun[kind]);
      due(x.told(kind, 5), 0);
      due(x.told(kind, 6), worth[kind]);
    }
    for (int kind = 0; kind < 6; kind++) {
      x.set(kind, 1, 0);
      due(x.told(kind, 4), kind == 4 ? 2 : 0);
      due(x.told(kind, 5), 1);
    }
    x.set(4, 2, 1);
    due(x.told(4, 4), 1);
    x.set(3, 1, 1);
    x.set(3, 2, 12);
    due(x.told(3, 4), 12);
    x.set(5, 1, 1);
    x.set(5, 2, 3);
    due(x.told(5, 4), 2);
    x.set(1, 1, 1);
    x.set(1, 2, 0);
    due(x.told(1, 4), 0);
    x.set(4, 3, 99);
    due(x.told(4, 6), -8);
    due(x.told(0, -1), BAD);
    due(x.told(0, 7), BAD);
    due(x.told(-1, 0), BAD);
    due(x.told(6, 0), BAD);
    due(x.told(LEAST, 0), BAD);
    due(x.told(MOST, 0), BAD);
    // With a TEXT, IDLE is half of what is held within GOODS.
    due(text(x, "melt 500"), 0);
    x.set(5, 2, 7);
    due(x.told(5, 4), 3);
    x.set(3, 2, 100);
    due(x.told(3, 4), 100);
    due(text(x, "melt 0-5"), 1);
    due(x.told(3, 4), 5);
    due(x.told(5, 4), 0);
  }

  private static void as() {
    promise(4);
    OneCloth x = new OneCloth();
    boolean[][] isOf = {
      {true, false, false, false, false, false}, {true, true, false, false, false, false},
      {true, false, true, false, false, false}, {true, true, false, true, false, false},
      {true, false, true, false, true, false}, {true, false, false, false, false, true}};
    for (int kind = 0; kind < 6; kind++) {
      x.stall(kind, 1, 7 + kind);
      for (int other = 0; other < 6; other++) due(x.as(kind, other), isOf[kind][other] ? 7 + kind : KIND);
    }
    due(x.as(6, 0), BAD);
    due(x.as(-1, 0), BAD);
    due(x.as(0, 6), BAD);
    due(x.as(0, -1), BAD);
    due(x.as(9, 9), BAD);
  }

  private static void turns() {
    promise(5);
    OneCloth x = new OneCloth();
    x.stall(0, 3, 10);
    due(x.turns(0, 3), 0);
    due(x.turns(0, 4), 3);
    due(x.told(0, 0), 4);
    due(x.told(0, 1), 3);
    due(x.told(0, 6), 81);
    due(x.turns(0, 4), 4);
    due(x.turns(0, 5), 4);
    due(x.turns(0, 0), 5);
    due(x.turns(0, 4), 0);
    due(x.turns(0, 6), BAD);
    due(x.turns(0, -1), BAD);
    due(x.turns(1, 0), BAD);
    due(x.turns(-1, 0), BAD);
    due(x.told(0, 0), 4);
  }

  private static void set() {
    promise(6);
    OneCloth x = new OneCloth();
    x.stall(0, 3, 10);
    due(x.set(0, 1, 11), 3);
    due(x.set(0, 1, 0), 11);
    due(x.set(0, 2, 999), 100);
    due(x.set(0, 2, 0), 999);
    due(x.set(0, 3, 99), 10);
    due(x.set(0, 3, 0), 99);
    due(x.set(0, 1, 12), BAD);
    due(x.set(0, 1, -1), BAD);
    due(x.set(0, 2, 1000), BAD);
    due(x.set(0, 2, -1), BAD);
    due(x.set(0, 3, 100), BAD);
    due(x.set(0, 3, -1), BAD);
    due(x.set(0, 0, 1), BAD);
    due(x.set(0, 4, 1), BAD);
    due(x.set(1, 1, 1), BAD);
    due(x.set(-1, 1, 1), BAD);
    for (int what = 0; what < 4; what++) due(x.told(0, what), 0);
  }

  private static void cloth() {
    promise(7);
    OneCloth x = still();
    int[] heat = {20, 25, 30, 35, 40, 45, 40, 35, 30, 25, 20};
    int[] shadeOfFour = {2, 2, 3, 3, 4, 4, 4, 5, 5, 6, 2};
    x.rule(0, 4);
    x.stall(0, 2, 0);
    x.stall(0, 6, 0);
    x.stall(0, 7, 0);
    int[] sets = {1, 1, 0, 0, 2, 2, 2, 6, 6, 6, 1};
    for (int hour = 0; hour <= 10; hour++) {
      due(x.cloth(4), heat[hour]);
      due(x.cloth(5), shadeOfFour[hour]);
      due(x.cloth(6), sets[hour]);
      due(x.count(2), Integer.bitCount(sets[hour]));
      x.hours(1);
    }
    OneCloth y = still();
    y.rule(1, 1);
    due(y.cloth(5), NONE);
    y.rule(0, 1);
    due(y.cloth(5), NONE);
    y.rule(0, 2);
    due(y.cloth(5), 0);
    y.hours(9);
    due(y.cloth(5), 4);
    y.rule(0, 10);
    due(y.cloth(5), NONE);
    y.rule(0, 9);
    due(y.cloth(5), 11);
    due(y.cloth(-1), BAD);
    due(y.cloth(7), BAD);
  }

  private static void rule() {
    promise(8);
    OneCloth x = new OneCloth();
    due(x.rule(0, 9), 0);
    due(x.rule(0, 10), BAD);
    due(x.rule(0, -1), BAD);
    due(x.rule(1, 4), 3);
    due(x.cloth(0), 8);
    due(x.rule(1, 1), 4);
    due(x.cloth(0), 8);
    due(x.rule(0, 11), 8);
    due(x.rule(0, 0), 11);
    due(x.rule(1, 2), 1);
    due(x.cloth(0), 0);
    due(x.rule(1, 1), 2);
    due(x.rule(0, 11), 0);
    due(x.rule(1, 6), 1);
    due(x.cloth(0), 6);
    due(x.rule(1, 0), BAD);
    due(x.rule(1, 7), BAD);
    due(x.rule(2, 0), 10);
    due(x.rule(2, 100), 0);
    due(x.rule(2, 101), BAD);
    due(x.rule(2, -1), BAD);
    due(x.rule(3, 2), 0);
    due(x.rule(3, 3), BAD);
    due(x.rule(3, -1), BAD);
    due(x.rule(4, 0), BAD);
    due(x.rule(-1, 0), BAD);
    int[] cloth = {6, 6, 100, 2};
    for (int i = 0; i < 4; i++) due(x.cloth(i), cloth[i]);
  }

  private static int z;
  private static int draw() { z = z * 1103515245 + 12345; return z >>> 8; }

  private static void deal() {
    promise(9);
    OneCloth x = new OneCloth();
    due(x.deal(0), BAD);
    due(x.deal(10), BAD);
    due(x.deal(-1), BAD);
    due(x.deal(7), 7);
    z = 1;
    for (int i = 0; i < 7; i++) {
      due(x.told(i, 0), draw() % 6);
      due(x.told(i, 1), draw() % 12);
      due(x.told(i, 3), draw() % 40);
      due(x.told(i, 2), 100);
    }
    due(x.count(6), z);
    due(x.deal(9), 2);
    for (int i = 0; i < 6; i++) draw();
    due(x.count(6), z);
    due(x.deal(1), 0);
    due(x.count(6), z);
    due(x.deal(10), BAD);
  }

  private static void seed() {
    promise(10);
    OneCloth x = new OneCloth();
    due(x.seed(-5), 1);
    due(x.seed(LEAST), -5);
    due(x.count(6), LEAST);
    x.hours(1);
    due(x.count(6), LEAST * 1103515245 + 12345);
  }

  private static void hours() {
    promise(11);
    OneCloth x = still();
    x.stall(0, 11, 5);
    x.stall(4, 0, 7);
    due(x.hours(0), BAD);
    due(x.hours(101), BAD);
    due(x.hours(-1), BAD);
    due(x.count(1), 0);
    due(x.hours(1), 6);
    due(x.book(1), 7);
    // HEAT / 5: 5 6 7 8 9 8 7 6 5; HOLY at PLACE 0 is in SHADE at HOURS 1 to 6.
    due(x.hours(9), 61 + 12);
    due(x.book(1), 49);
    due(x.count(1), 10);
    due(x.told(0, 2), 35);
    due(x.hours(100), 35 + 2 * 43);
    due(x.told(1, 2), 0);
    due(x.hours(100), 0);
    due(x.count(1), 210);
    due(x.book(0), 200);
  }

  private static void haulingByLoss() {
    promise(11);
    OneCloth x = still();
    x.rule(3, 1);
    x.hours(4);
    due(x.cloth(0), 0);
    // HOUR 4, o is 0: FISH at 8 loses most, and is above.
    x.stall(0, 1, 0);
    x.stall(1, 8, 0);
    due(x.hours(1), 16);
    due(x.cloth(0), 1);
    x.set(1, 1, 0);
    due(x.hours(1), 0);
    due(x.cloth(0), 0);
    // Both lose as much: the least number decides. It is at 3, the cloth is at 4 .. 6.
    OneCloth y = still();
    y.hours(4);
    y.rule(3, 1);
    y.rule(0, 4);
    y.stall(0, 3, 0);
    y.stall(0, 7, 0);
    due(y.hours(1), 8);
    due(y.cloth(0), 3);
    y.set(0, 1, 9);
    y.set(1, 1, 1);
    due(y.hours(1), 18);
    due(y.cloth(0), 4);
    // Nothing is lost in the sun: not hauled. One in SHADE that loses (HOLY) is not looked at.
    y.turns(0, 2);
    y.turns(1, 4);
    due(y.hours(1), 0);
    due(y.cloth(0), 4);
    // At the bounds it stays.
    OneCloth b = still();
    b.rule(3, 1);
    b.rule(0, 9);
    b.hours(4);
    b.stall(1, 0, 0);
    b.rule(0, 0);
    b.hours(1);
    due(b.cloth(0), 0);
    // o counts: at HOUR 0 the shade of 4 .. 6 is 2 .. 4; PLACE 3 of a narrow cloth lies below FIRST, yet above it.
    OneCloth o = still();
    o.rule(3, 1);
    o.rule(1, 1);
    o.rule(0, 4);
    o.stall(0, 3, 0);
    due(o.hours(1), 0);
    due(o.cloth(0), 5);
    // A TEXT counts there too.
    OneCloth t = still();
    t.rule(3, 1);
    t.hours(4);
    t.rule(0, 5);
    t.stall(1, 11, 3);
    t.stall(0, 1, 90);
    due(text(t, "melt p"), 0);
    due(t.hours(1), 96);
    due(t.cloth(0), 4);
    // 1 is enough to be hauled for.
    due(text(t, "melt p=90"), 1);
    due(t.hours(1), 1);
    due(t.cloth(0), 3);
  }

  private static void haulingByPay() {
    promise(11);
    OneCloth x = still();
    x.hours(4);
    x.rule(3, 2);
    x.rule(0, 4);
    x.stall(2, 3, 10);
    x.stall(2, 7, 10);
    due(x.hours(1), 0);
    due(x.cloth(0), 3);
    due(x.book(1), 10);
    x.rule(0, 4);
    x.set(1, 3, 11);
    x.hours(1);
    due(x.cloth(0), 5);
    due(x.book(1), 21);
    // As much without a haul: it stays.
    OneCloth y = still();
    y.hours(4);
    y.rule(3, 2);
    y.rule(0, 4);
    y.stall(2, 5, 10);
    y.hours(1);
    due(y.cloth(0), 4);
    // Up, at its bound: it stays, and the pay with it.
    OneCloth b = still();
    b.hours(4);
    b.rule(3, 2);
    b.rule(0, 9);
    b.stall(2, 9, 10);
    b.hours(1);
    due(b.cloth(0), 9);
    due(b.book(1), 10);
    // A STALL that an IMAGE does not have draws no cloth; nine of them are all looked at.
    b.rule(0, 5);
    b.keep();
    b.stall(2, 4, 99);
    b.back();
    b.hours(1);
    due(b.cloth(0), 5);
    for (int i = 0; i < 8; i++) b.stall(2, 4, i == 7 ? 99 : 0);
    b.hours(1);
    due(b.cloth(0), 4);
    due(b.book(1), 109);
  }

  private static void wind() {
    promise(11);
    OneCloth x = new OneCloth();
    x.rule(2, 100);
    int first = 0;
    int torn = 0;
    z = 1;
    for (int i = 0; i < 60; i++) {
      draw();
      int by = draw() % 3 - 1;
      first = Math.max(0, Math.min(9, first + by));
      torn += by == 0 ? 0 : 1;
      due(x.hours(1), 0);
      due(x.cloth(0), first);
      due(x.book(2), torn);
      due(x.count(6), z);
    }
    OneCloth g = new OneCloth();
    g.rule(2, 30);
    z = 1;
    torn = 0;
    for (int i = 0; i < 40; i++) {
      if (draw() % 100 < 30 && draw() % 3 != 1) torn++;
      g.hours(1);
      due(g.book(2), torn);
      due(g.count(6), z);
    }
    OneCloth s = still();
    s.hours(50);
    due(s.book(2), 0);
    z = 1;
    for (int i = 0; i < 50; i++) draw();
    due(s.count(6), z);
  }

  private static void lastHour() {
    promise(11);
    OneCloth x = still();
    for (int i = 0; i < 99; i++) x.hours(100);
    due(x.hours(98), 0);
    due(x.count(1), 9998);
    x.stall(0, 11, 0);
    due(x.behind(2, 0), 11);
    due(x.hours(100), 6);
    due(x.count(1), 9999);
    due(x.hours(1), 0);
    due(x.hours(101), BAD);
    due(x.count(1), 9999);
    // What is thought goes on beyond.
    due(x.behind(2, 0), 15);
    due(x.goods(0, 3), 80);
    due(x.best(1, 1), 11);
    x.keep();
    due(x.check(5), 0);
    x.tell(1);
    due(x.check(5), 1);
  }

  private static void book() {
    promise(12);
    OneCloth x = still();
    x.stall(0, 0, 9);
    x.stall(0, 11, 9);
    x.set(0, 2, 50);
    due(x.book(3), 150);
    x.hours(2);
    due(x.book(0), 9 );
    due(x.book(1), 18);
    due(x.book(2), 0);
    due(x.book(3), 141);
    due(x.book(-1), BAD);
    due(x.book(4), BAD);
  }

  private static void behind() {
    promise(13);
    OneCloth x = new OneCloth();
    x.deal(9);
    x.rule(2, 60);
    x.rule(3, 1);
    x.hours(5);
    x.keep();
    int[] was = {x.book(0), x.book(1), x.cloth(0), x.book(2)};
    for (int what = 0; what < 4; what++) due(x.behind(0, what), was[what]);
    int[] then = new int[4];
    for (int what = 0; what < 4; what++) then[what] = x.behind(100, what);
    due(x.count(1), 5);
    due(x.book(0), was[0]);
    x.hours(100);
    due(x.book(0), then[0]);
    due(x.book(1), then[1]);
    due(x.cloth(0), then[2]);
    due(x.book(2), then[3]);
    due(x.behind(-1, 0), BAD);
    due(x.behind(101, 0), BAD);
    due(x.behind(1, -1), BAD);
    due(x.behind(1, 4), BAD);
  }

  private static void goods() {
    promise(14);
    OneCloth x = still();
    x.stall(0, 11, 0);
    x.stall(4, 0, 0);
    due(x.goods(0, 0), 100);
    due(x.goods(0, 3), 85);
    due(x.goods(1, 10), 86);
    due(x.goods(0, 100), 0);
    due(x.goods(0, 101), BAD);
    due(x.goods(0, -1), BAD);
    due(x.goods(2, 1), BAD);
    due(x.goods(-1, 1), BAD);
    due(x.told(0, 2), 100);
  }

  private static void best() {
    promise(15);
    OneCloth x = still();
    due(x.best(5, 0), 0);
    due(x.best(5, 1), 0);
    x.hours(4);
    x.stall(0, 5, 0);
    // HOURS 4, 5, 6, o is 0: up, up, up brings the cloth of 0 .. 2 to 3 .. 5: 8 and 9 are lost.
    due(x.best(1, 0), 0);
    due(x.best(1, 1), 8);
    due(x.best(2, 0), 0);
    due(x.best(3, 0), 26);
    due(x.best(3, 1), 17);
    // HOUR 7, o is 1, helps: of rows as good the least number.
    due(x.best(4, 0), 26 * 3);
    due(x.best(4, 1), 17);
    x.rule(0, 6);
    due(x.best(1, 0), 1);
    due(x.best(1, 1), 0);
    due(x.best(2, 0), 3);
    due(x.cloth(0), 6);
    // What was lost ahead is in it; MODE has no say.
    x.rule(3, 1);
    x.rule(0, 0);
    x.hours(1);
    due(x.best(1, 1), 17);
    due(x.best(0, 0), BAD);
    due(x.best(6, 0), BAD);
    due(x.best(1, 2), BAD);
    due(x.best(1, -1), BAD);
  }

  private static void wider() {
    promise(16);
    OneCloth x = still();
    x.hours(4);
    x.rule(0, 9);
    x.stall(0, 8, 0);
    x.stall(0, 6, 0);
    // HOURS 4 and 5: each loses 17 in the sun; a width of 4 brings FIRST to 8, one of 6 brings it to 6.
    due(x.wider(34, 2), 1);
    due(x.wider(33, 2), 4);
    due(x.wider(17, 2), 4);
    due(x.wider(16, 2), 6);
    due(x.wider(0, 2), 6);
    x.set(0, 1, 0);
    due(x.wider(16, 2), NONE);
    due(x.cloth(1), 3);
    due(x.cloth(0), 9);
    due(x.wider(-1, 1), BAD);
    due(x.wider(10000, 1), BAD);
    due(x.wider(0, 0), BAD);
    due(x.wider(0, 61), BAD);
    due(x.wider(9999, 60), 1);
    // SPOILT so far is in it.
    x.hours(1);
    due(x.wider(16, 1), NONE);
  }

  private static void shaded() {
    promise(17);
    OneCloth x = still();
    x.stall(0, 0, 0);
    x.stall(0, 4, 0);
    due(x.shaded(0, 1), 1);
    due(x.shaded(0, 10), 7);
    due(x.shaded(0, 60), 42);
    due(x.shaded(1, 10), 1);
    due(x.shaded(0, 0), BAD);
    due(x.shaded(0, 61), BAD);
    due(x.shaded(2, 1), BAD);
    due(x.shaded(-1, 1), BAD);
    // At (2) THE CLOTH is hauled already.
    x.hours(4);
    x.rule(3, 1);
    x.set(0, 2, 0);
    x.rule(0, 1);
    x.rule(0, 5);
    due(x.shaded(1, 1), 1);
    x.rule(3, 0);
    due(x.shaded(1, 1), 0);
    due(x.cloth(0), 5);
  }

  private static void without() {
    promise(18);
    OneCloth x = still();
    due(x.without(1, 0), NONE);
    due(x.without(1, 1), NONE);
    due(x.without(0, 0), BAD);
    due(x.without(61, 0), BAD);
    due(x.without(1, 2), BAD);
    due(x.without(1, -1), BAD);
    x.stall(2, 0, 50);
    x.stall(2, 0, 20);
    x.stall(2, 0, 20);
    due(x.without(1, 0), 1);
    due(x.without(1, 1), 70);
    due(x.without(7, 1), 490);
    due(x.told(1, 3), 20);
    // COINS so far are in it.
    x.hours(2);
    due(x.without(1, 1), 180 + 70);
    // By PAY: without the one that draws it away, the cloth goes where more is.
    OneCloth y = still();
    y.hours(4);
    y.rule(3, 2);
    y.rule(0, 4);
    y.stall(2, 3, 30);
    y.stall(2, 7, 29);
    due(y.without(1, 0), 1);
    due(y.without(1, 1), 30);
    y.set(1, 3, 31);
    due(y.without(1, 0), 0);
    due(y.without(1, 1), 31);
  }

  private static void whose() {
    promise(19);
    OneCloth x = still();
    due(x.whose(0, 1, 0), NOTHING);
    due(x.whose(4, 1, 0), BAD);
    due(x.whose(-1, 1, 0), BAD);
    due(x.whose(0, -1, 0), BAD);
    due(x.whose(0, 61, 0), BAD);
    due(x.whose(0, 1, 2), BAD);
    due(x.whose(0, 1, -1), BAD);
    x.hours(4);
    x.rule(0, 4);
    x.stall(1, 3, 1);
    x.stall(0, 7, 9);
    // One HOUR: MODE 0 leaves 84 92, MODE 1 (down) 100 92, MODE 2 (up) 84 100.
    x.sheet(0, 1, 3);
    x.mark(0, 0, 84);
    x.mark(0, 1, 101);
    due(x.whose(0, 1, 0), 2);
    due(x.whose(0, 1, 1), 1);
    x.mark(0, 0, 100);
    x.mark(0, 1, 92);
    due(x.whose(0, 1, 0), 1);
    due(x.whose(0, 1, 1), 0);
    x.mark(0, 1, NONE);
    x.mark(0, 0, 80);
    due(x.whose(0, 1, 0), 0);
    due(x.whose(0, 1, 1), 4);
    // A place beyond all STALLS gives 0.
    x.mark(0, 2, 500);
    due(x.whose(0, 1, 1), 4);
    due(x.whose(0, 0, 0), 0);
    due(x.whose(0, 0, 1), 20);
    due(x.cloth(3), 0);
    x.sheet(1, 0, 0);
    due(x.whose(1, 60, 0), 0);
    due(x.whose(1, 60, 1), 0);
  }

  private static void fee() {
    promise(20);
    OneCloth x = new OneCloth();
    x.rule(2, 100);
    x.stall(0, 0, 13);
    due(x.fee(), 0);
    x.hours(1);
    due(x.fee(), 13);
    x.hours(20);
    due(text(x, "fee c * 100 + t"), 0);
    due(x.fee(), x.book(1) * 100 + x.book(2));
    due(text(x, "fee t/0"), 1);
    due(x.fee(), 0);
  }

  private static void fine() {
    promise(21);
    OneCloth x = still();
    x.stall(0, 0, 13);
    x.stall(0, 1, 13);
    x.set(1, 2, 70);
    due(x.fine(0), 100);
    due(x.fine(1), 70);
    due(x.fine(2), BAD);
    due(x.fine(-1), BAD);
    due(text(x, "fine g*10+s"), 0);
    due(x.fine(0), 1001);
    due(x.fine(1), 700);
    due(x.fine(2), BAD);
  }

  private static void feed() {
    promise(22);
    OneCloth x = new OneCloth();
    // "fee " "c+25" "0   "
    due(x.feed(0x66656520, 0x632b3235, 0x30202020), 12);
    due(x.text(), 0);
    due(x.fee(), 250);
    for (int i = 1; i <= 8; i++) due(x.feed(-1, 0, i), 12 * i);
    due(x.feed(0, 0, 0), FULL);
    due(x.count(5), 96);
    x.trim(85);
    due(x.feed(0, 0, 0), FULL);
    x.trim(84);
    due(x.feed(0, 0, 0), 96);
    // Bytes above 127 are signs.
    due(x.text(), -100);
  }

  private static void trim() {
    promise(23);
    OneCloth x = new OneCloth();
    due(x.trim(0), 0);
    due(x.trim(1), BAD);
    due(x.trim(-1), BAD);
    x.feed(0x66656520, 0x632b3235, 0x30202020);
    due(x.trim(13), BAD);
    due(x.trim(12), 12);
    due(x.trim(8), 8);
    due(x.count(5), 8);
    due(x.trim(9), BAD);
    due(x.text(), 0);
    due(x.fee(), 25);
    due(x.trim(0), 0);
  }

  private static void faultOf(String bytes, int place) {
    OneCloth x = new OneCloth();
    int got = text(x, bytes);
    if (got != -100 - place) System.out.println("  (" + bytes + ")");
    due(got, -100 - place);
    due(x.count(5), 0);
    due(x.count(3), 0);
  }

  private static void textFaults() {
    promise(24);
    faultOf("", 0);
    faultOf("   ", 3);
    faultOf("melt", 4);
    faultOf("melt  ", 6);
    faultOf("  mel 5", 2);
    faultOf("melth", 0);
    faultOf("melta", 0);
    faultOf("meltz 5", 0);
    faultOf("gelt 5", 0);
    faultOf("gee 5", 0);
    faultOf("gine 5", 0);
    faultOf("fin 5", 0);
    faultOf("Melt 5", 0);
    faultOf("melt5", 4);
    faultOf("melt 5h", 6);
    faultOf("melt h5", 6);
    faultOf("melt 5 5", 7);
    faultOf("melt 12345", 5);
    faultOf("melt 5+00001", 7);
    faultOf("melt hg", 5);
    faultOf("melt c", 5);
    faultOf("melt s", 5);
    faultOf("fee h", 4);
    faultOf("fee g", 4);
    faultOf("fine p", 5);
    faultOf("fine c", 5);
    faultOf("melt -5", 5);
    faultOf("melt 5+", 7);
    faultOf("melt 5+ ", 8);
    faultOf("melt 5 + * 5", 9);
    faultOf("melt 1<2<3", 8);
    faultOf("melt 1=2 >3", 9);
    faultOf("melt ()", 6);
    faultOf("melt (5", 7);
    faultOf("melt (5))", 8);
    faultOf("melt 5)", 6);
    faultOf("melt (5 5)", 8);
    faultOf("melt !", 6);
    faultOf("melt 5!", 6);
    faultOf("melt !!!!!!!!!5", 13);
    faultOf("melt (((((((((5", 13);
    faultOf("melt !(!(!(!(!(!(!(!(!5))))))))", 21);
    faultOf("melt melt 5", 5);
    faultOf("5 melt", 0);
    faultOf("+", 0);
    faultOf("melt 5\t", 6);
    faultOf("melt 5 \u00e9", 7);
    faultOf("fee c\u0000", 5);
    faultOf("melt H", 5);
    // A text that was refused leaves nothing behind for the next one.
    OneCloth x = new OneCloth();
    for (int i = 0; i < 3; i++) {
      due(text(x, "fee h"), -104);
      due(text(x, "fee ((((((5"), -111);
      due(text(x, "fee !!!!!!"), -110);
      due(text(x, "fee ((((((((!!!!!!!!0))))))))"), i);
      due(x.fee(), 0);
    }
    tape(x, "   ");
    x.trim(0);
    due(x.text(), -100);
  }

  private static void valueOf(String expression, int value) {
    OneCloth x = new OneCloth();
    due(text(x, "fee" + expression), 0);
    if (x.fee() != value) System.out.println("  (" + expression + ")");
    due(x.fee(), value);
  }

  private static void textValues() {
    promise(24);
    valueOf(" 7", 7);
    valueOf("(7)", 7);
    valueOf("!7", 0);
    valueOf("!c", 1);
    valueOf("   0007   ", 7);
    valueOf(" 9999", 9999);
    valueOf(" 7-2-1", 4);
    valueOf(" 2+3*4", 14);
    valueOf(" (2+3)*4", 20);
    valueOf(" 100/7/2", 7);
    valueOf(" (0-7)/2", -3);
    valueOf(" 7/0", 0);
    valueOf(" 7/2*2", 6);
    valueOf(" 1<2", 1);
    valueOf(" 2<1", 0);
    valueOf(" 2<2", 0);
    valueOf(" 2>2", 0);
    valueOf(" 1>2", 0);
    valueOf(" 2=2", 1);
    valueOf(" 2>1", 1);
    valueOf(" 1+1=2", 1);
    valueOf(" 1=2", 0);
    valueOf(" 5&7", 1);
    valueOf(" 5&0", 0);
    valueOf(" 5|0", 1);
    valueOf(" 0|0", 0);
    valueOf(" 1|0&0", 1);
    valueOf(" (1|0)&0", 0);
    valueOf(" 1<2&2<3", 1);
    valueOf(" 1<2|1<0&1", 1);
    valueOf(" (1<2)<3", 1);
    valueOf(" !5+3", 3);
    valueOf(" !(5+3)", 0);
    valueOf(" !!5", 1);
    valueOf(" !!!!!!!!5", 1);
    valueOf(" ((((((((5))))))))", 5);
    valueOf(" !(!(!(!(!(!(!(!(5))))))))", 1);
    valueOf(" !5+!5+!5+!5+!5+!5+!5+!5+!0", 1);
    valueOf(" (1)+(1)+(1)+(1)+(1)+(1)+(1)+(1)+(1)", 9);
    valueOf(" 9999*9999*9999", 9999 * 9999 * 9999);
    valueOf(" ( ( 0 - 8 * 8 * 8 * 8 * 8 * 8 * 8 * 8 * 8 * 8 ) * 2 ) / ( 0 - 1 )", LEAST);
    OneCloth x = still();
    x.stall(0, 11, 3);
    due(text(x, "melt h*10+g+p"), 0);
    due(x.told(0, 4), 100);
    due(text(x, "melt h/4+g/50+p"), 1);
    due(x.told(0, 4), 10);
    due(x.hours(1), 10);
    due(text(x, "melt 0-1"), 2);
    due(x.hours(1), 0);
  }

  private static void textFull() {
    promise(24);
    OneCloth x = new OneCloth();
    for (int i = 0; i < 14; i++) due(text(x, "fee " + i), i);
    due(text(x, "fee 99"), FULL);
    due(x.count(5), 0);
    due(text(x, "fee +"), -104);
    due(x.fee(), 13);
    due(x.count(3), 14);
    OneCloth y = new OneCloth();
    OneCloth all = new OneCloth();
    all.stall(0, 11, 6);
    for (int i = 0; i < 11; i++) due(text(all, "fee " + i), i);
    due(text(all, "fine 3"), 11);
    due(text(all, "fine 3+g"), 12);
    due(text(all, "melt p+1"), 13);
    due(all.fine(0), 103);
    due(all.told(0, 4), 7);
    OneCloth f = new OneCloth();
    f.stall(0, 11, 6);
    for (int i = 0; i < 13; i++) text(f, "fee " + i);
    due(text(f, "fine 7*g"), 13);
    due(f.fine(0), 700);
    StringBuilder longest = new StringBuilder("fee ");
    for (int i = 0; i < 45; i++) longest.append("1+");
    for (int i = 0; i < 3; i++) {
      due(text(y, longest + " 1"), i);
      due(y.fee(), 46);
      due(y.textTold(i, 1), 46);
    }
    due(text(y, longest + "(1"), -196);
    StringBuilder closed = new StringBuilder(" fee (");
    for (int i = 0; i < 44; i++) closed.append("2+");
    due(text(y, closed + "2)"), 3);
    due(y.fee(), 90);
    due(text(y, "fee" + " ".repeat(91) + "!0"), 4);
    due(y.fee(), 1);
  }

  private static void textTold() {
    promise(25);
    OneCloth x = new OneCloth();
    due(x.textTold(0, 0), BAD);
    text(x, "fine 1+g*s-!20");
    text(x, "melt h");
    text(x, "fee (c|7777)&t");
    due(x.textTold(0, 0), 2);
    due(x.textTold(0, 1), 4);
    due(x.textTold(1, 0), 0);
    due(x.textTold(1, 1), 1);
    due(x.textTold(2, 0), 1);
    due(x.textTold(2, 1), 3);
    due(x.textTold(3, 0), BAD);
    due(x.textTold(-1, 0), BAD);
    due(x.textTold(0, 2), BAD);
    due(x.textTold(0, -1), BAD);
  }

  private static void why() {
    promise(26);
    OneCloth x = new OneCloth();
    text(x, "fine 1");
    text(x, "melt 1");
    text(x, "fine 2");
    due(x.why(0), 1);
    due(x.why(1), NONE);
    due(x.why(2), 2);
    due(x.why(3), BAD);
    due(x.why(-1), BAD);
  }

  private static void sheet() {
    promise(27);
    OneCloth x = new OneCloth();
    due(x.sheet(0, 0, 24), 24);
    due(x.mark(0, 23, 5), 1);
    due(x.mark(0, 24, 5), INDEX);
    due(x.sheet(0, 1, 25), BAD);
    due(x.sheet(0, 1, -1), SIZE);
    due(x.sheet(0, 1, LEAST), SIZE);
    due(x.sheet(0, 2, 1), BAD);
    due(x.sheet(0, -2, 1), BAD);
    due(x.sheet(4, 0, 1), BAD);
    due(x.sheet(-1, 0, -1), BAD);
    due(x.mark(0, 23, NONE), KIND);
    due(x.sheet(0, 1, 24), 24);
    x.lay(0, 2, 0);
    due(x.item(0, 23), 0);
    due(x.sheet(0, 0, 0), 0);
    due(x.mark(0, 0, 0), INDEX);
    due(x.sheet(0, -1, 99), 0);
    due(x.mark(0, 0, 0), NOTHING);
    due(x.sheet(1, -1, -5), 0);
    x.sheet(2, 1, 1);
    x.mark(2, 0, NONE);
    x.sheet(2, 0, 1);
    x.lay(1, 2, 2);
    due(x.item(1, 0), 0);
    due(x.sheet(4, -1, 0), BAD);
  }

  private static int marked(OneCloth x, int sheet, int place) {
    x.lay(4, 2, sheet);
    return x.item(4, place);
  }

  private static void mark() {
    promise(28);
    OneCloth x = new OneCloth();
    due(x.mark(4, 0, 0), BAD);
    due(x.mark(-1, 0, 0), BAD);
    due(x.mark(0, 0, 0), NOTHING);
    x.sheet(0, 0, 3);
    x.sheet(1, 1, 3);
    due(x.mark(0, 3, NONE), INDEX);
    due(x.mark(0, -1, 0), INDEX);
    due(x.mark(0, 0, NONE), KIND);
    due(x.mark(0, 0, 32768), 1);
    due(marked(x, 0, 0), -32768);
    due(x.mark(0, 1, 65541), 1);
    due(marked(x, 0, 1), 5);
    due(x.mark(0, 2, LEAST), 1);
    due(marked(x, 0, 2), 0);
    due(x.mark(1, 0, 99999), 1);
    due(marked(x, 1, 0), 99999);
    due(x.mark(1, 1, -99999), 1);
    due(marked(x, 1, 1), -99999);
    due(x.mark(1, 0, 100000), BAD);
    due(x.mark(1, 0, -100000), BAD);
    due(x.mark(1, 3, 100000), INDEX);
    due(marked(x, 1, 0), 99999);
    due(x.mark(1, 0, NONE), 1);
    due(marked(x, 1, 0), KIND);
    due(x.mark(1, 0, 4), 1);
    due(marked(x, 1, 0), 4);
  }

  private static void pour() {
    promise(29);
    OneCloth x = new OneCloth();
    for (int i = 0; i < 5; i++) x.stall(0, i, 0);
    due(x.pour(4), BAD);
    due(x.pour(-1), BAD);
    due(x.pour(0), NOTHING);
    x.sheet(0, 1, 4);
    x.mark(0, 0, 100);
    x.mark(0, 1, NONE);
    x.mark(0, 2, -7);
    x.mark(0, 3, 99999);
    due(x.pour(0), 2);
    int[] goods = {100, 100, 0, 999, 100};
    for (int i = 0; i < 5; i++) due(x.told(i, 2), goods[i]);
    due(x.pour(0), 0);
    x.sheet(1, 0, 24);
    x.mark(1, 4, 55);
    due(x.pour(1), 4);
    due(x.told(4, 2), 55);
    due(x.told(0, 2), 0);
    x.deal(4);
    x.mark(1, 8, 3);
    x.mark(1, 9, 4);
    due(x.pour(1), 4);
    due(x.told(8, 2), 3);
  }

  private static void reads() {
    promise(30);
    OneCloth x = still();
    x.stall(0, 11, 0);
    x.stall(1, 11, 0);
    x.stall(4, 0, 0);
    due(x.reads(4), BAD);
    due(x.reads(-1), BAD);
    due(x.reads(0), NOTHING);
    x.sheet(0, 1, 4);
    due(x.reads(0), 0);
    x.mark(0, 0, 4);
    due(x.reads(0), 1);
    x.mark(0, 1, 8);
    due(x.reads(0), 2);
    x.mark(0, 2, NONE);
    due(x.reads(0), 3);
    x.mark(0, 3, NONE);
    due(x.reads(0), NONE);
    x.mark(0, 2, 2);
    due(x.reads(0), NONE);
    x.sheet(1, 0, 0);
    due(x.reads(1), NONE);
    x.set(1, 2, 7);
    due(x.reads(0), 1);
  }

  private static void copy() {
    promise(31);
    OneCloth x = new OneCloth();
    x.sheet(0, 0, 6);
    x.sheet(1, 0, 4);
    x.sheet(2, 1, 4);
    for (int i = 0; i < 6; i++) x.mark(0, i, i + 1);
    due(x.copy(4, 0, 0, 0, 1), BAD);
    due(x.copy(0, 0, 4, 0, 1), BAD);
    due(x.copy(-1, 0, 0, 0, 1), BAD);
    due(x.copy(0, 0, -1, 0, 1), BAD);
    due(x.copy(3, 0, 2, 9, 1), NOTHING);
    due(x.copy(0, 0, 3, 0, 1), NOTHING);
    due(x.copy(0, 0, 2, 9, 1), KIND);
    due(x.copy(0, 0, 1, 0, 5), INDEX);
    due(x.copy(0, 3, 1, 0, 4), INDEX);
    due(x.copy(0, -1, 1, 0, 1), INDEX);
    due(x.copy(0, 0, 1, -1, 1), INDEX);
    due(x.copy(0, 0, 1, 0, -1), INDEX);
    due(x.copy(0, MOST, 1, 0, MOST), INDEX);
    due(x.copy(0, 0, 1, MOST, 1), INDEX);
    due(x.copy(0, 7, 1, 0, 0), INDEX);
    due(x.copy(0, 6, 1, 4, 0), 0);
    due(x.copy(0, 2, 1, 1, 3), 3);
    int[] one = {0, 3, 4, 5};
    for (int i = 0; i < 4; i++) due(marked(x, 1, i), one[i]);
    due(x.copy(0, 0, 0, 2, 4), 4);
    int[] up = {1, 2, 1, 2, 3, 4};
    for (int i = 0; i < 6; i++) due(marked(x, 0, i), up[i]);
    due(x.copy(0, 1, 0, 0, 5), 5);
    int[] down = {2, 1, 2, 3, 4, 4};
    for (int i = 0; i < 6; i++) due(marked(x, 0, i), down[i]);
    x.mark(2, 0, NONE);
    x.sheet(3, 1, 2);
    due(x.copy(2, 0, 3, 1, 1), 1);
    due(marked(x, 3, 1), KIND);
  }

  private static void lay() {
    promise(32);
    OneCloth x = new OneCloth();
    x.stall(1, 2, 30);
    x.sheet(1, 0, 2);
    x.mark(1, 1, 8);
    due(x.lay(5, 0, 0), BAD);
    due(x.lay(-1, 0, 0), BAD);
    due(x.lay(0, 4, 0), BAD);
    due(x.lay(0, -1, 0), BAD);
    due(x.lay(0, 1, 1), BAD);
    due(x.lay(0, 1, -1), BAD);
    due(x.lay(0, 2, 4), BAD);
    due(x.lay(0, 2, -1), BAD);
    due(x.lay(0, 2, 0), NOTHING);
    due(x.lay(0, 3, LEAST), 0);
    due(x.lay(0, 2, 0), NOTHING);
    due(x.rest(0, 10), LEAST % 10);
    due(x.lay(0, 1, 0), 3);
    due(x.lay(0, 2, 1), 1);
    due(x.lay(0, 0, 77), 2);
    due(x.lay(0, 0, -1), 0);
    // Each thing stays as it was then.
    x.lay(0, 1, 0);
    x.lay(1, 2, 1);
    x.set(0, 3, 40);
    x.turns(0, 2);
    x.mark(1, 1, 9);
    due(x.ask(0, 1), 36);
    due(x.item(1, 1), 8);
    x.sheet(1, -1, 0);
    due(x.item(1, 1), 8);
  }

  private static void ask() {
    promise(33);
    OneCloth x = new OneCloth();
    x.stall(3, 2, 30);
    x.sheet(0, 0, 1);
    due(x.ask(0, 0), NOTHING);
    due(x.ask(0, 6), BAD);
    due(x.ask(0, -1), BAD);
    due(x.ask(5, 0), BAD);
    due(x.ask(-1, 0), BAD);
    x.lay(0, 1, 0);
    x.lay(1, 2, 0);
    x.lay(2, 3, 0);
    due(x.ask(0, 0), 72);
    due(x.ask(0, 1), 72);
    due(x.ask(0, 3), 72);
    due(x.ask(0, 2), KIND);
    due(x.ask(0, 4), KIND);
    due(x.ask(0, 5), KIND);
    due(x.ask(1, 0), KIND);
    due(x.ask(2, 0), KIND);
    due(x.ask(2, 6), BAD);
  }

  private static void item() {
    promise(34);
    OneCloth x = new OneCloth();
    x.stall(3, 2, 30);
    x.sheet(0, 1, 2);
    x.mark(0, 0, -4);
    x.mark(0, 1, NONE);
    due(x.item(5, 0), BAD);
    due(x.item(-1, 0), BAD);
    due(x.item(0, 9), NOTHING);
    x.lay(0, 2, 0);
    x.lay(1, 1, 0);
    x.lay(2, 3, 5);
    due(x.item(0, 0), -4);
    due(x.item(0, 1), KIND);
    due(x.item(0, 2), INDEX);
    due(x.item(0, -1), INDEX);
    due(x.item(1, 9), KIND);
    due(x.item(2, 0), KIND);
  }

  private static void rest() {
    promise(35);
    OneCloth x = new OneCloth();
    x.stall(3, 2, 30);
    due(x.rest(5, 0), BAD);
    due(x.rest(-1, 0), BAD);
    due(x.rest(0, 0), NOTHING);
    x.lay(0, 1, 0);
    due(x.rest(0, 0), KIND);
    x.lay(0, 3, -17);
    due(x.rest(0, 5), -2);
    due(x.rest(0, -5), -2);
    due(x.rest(0, 0), NO);
    x.lay(0, 3, LEAST);
    due(x.rest(0, -1), 0);
  }

  private static void tell() {
    promise(36);
    OneCloth x = new OneCloth();
    for (int i = 1; i <= 60; i++) due(x.tell(-i), i);
    due(x.tell(0), FULL);
    due(x.count(4), 60);
  }

  private static void check() {
    promise(37);
    OneCloth x = still();
    x.stall(0, 11, 0);
    x.tell(1);
    due(x.check(1), NO);
    due(x.count(4), 0);
    x.tell(1);
    due(x.check(0), BAD);
    due(x.count(4), 0);
    due(x.check(31), BAD);
    due(x.check(-1), BAD);
    x.hours(3);
    x.rule(0, 2);
    x.keep();
    x.hours(4);
    x.rule(0, 5);
    // SPOILT was 15; 7, 8 and 9 come to it.
    int[] told = {22, 2, 30, 2, 39, 2};
    for (int v : told) x.tell(v);
    due(x.check(3), 0);
    for (int v : told) x.tell(v);
    due(x.check(2), 5);
    for (int v : told) x.tell(v);
    due(x.check(4), 7);
    due(x.count(4), 0);
    due(x.check(1), 1);
    x.tell(22);
    due(x.check(1), 2);
    for (int i = 0; i < told.length; i++) {
      for (int k = 0; k < told.length; k++) x.tell(k == i ? 99 : told[k]);
      due(x.check(3), 1 + i);
    }
    for (int i = 0; i < told.length; i++) x.tell(told[i] + (i > 3 ? 1 : 0));
    due(x.check(3), 5);
    due(x.count(1), 7);
    // Near the last HOUR fewer are told of.
    OneCloth y = still();
    for (int i = 0; i < 99; i++) y.hours(100);
    y.hours(97);
    y.keep();
    for (int i = 0; i < 4; i++) y.tell(0);
    due(y.check(30), 0);
    for (int i = 0; i < 5; i++) y.tell(0);
    due(y.check(30), 5);
    for (int i = 0; i < 3; i++) y.tell(0);
    due(y.check(30), 4);
  }

  private static void keepAndBack() {
    promise(38);
    OneCloth x = new OneCloth();
    x.seed(77);
    x.deal(4);
    x.rule(2, 80);
    x.rule(3, 2);
    x.hours(7);
    text(x, "melt h/3");
    text(x, "fee t+1");
    due(x.keep(), 4);
    int[] was = all(x);
    x.deal(3);
    x.turns(0, 5);
    x.set(1, 1, 11);
    x.hours(20);
    x.rule(1, 5);
    x.rule(0, 7);
    x.rule(2, 1);
    x.rule(3, 0);
    text(x, "melt 1");
    text(x, "fine 1");
    x.sheet(0, 0, 3);
    x.lay(0, 3, 12);
    x.tell(4);
    x.feed(0, 0, 0);
    promise(39);
    for (int again = 0; again < 2; again++) {
      due(x.back(), 4);
      int[] is = all(x);
      for (int i = 0; i < was.length; i++) due(is[i], was[i]);
      due(x.mark(0, 0, 1), 1);
      due(x.rest(0, 5), 2);
      due(x.count(4), 1);
      due(x.count(5), 12);
      x.hours(3);
      x.stall(0, 0, 0);
    }
    // TEXTS told behind it are gone, others take their numbers, and the kept ones count again.
    x.back();
    due(text(x, "melt 2"), 2);
    due(x.why(0), 2);
    x.back();
    due(x.why(0), 0);
    due(x.why(2), NONE);
    due(x.count(3), 2);
    due(x.textTold(2, 0), BAD);
    promise(38);
    due(new OneCloth().keep(), 0);
    x.stall(0, 0, 0);
    due(x.keep(), 5);
    x.deal(9);
    due(x.back(), 5);
    promise(39);
    due(new OneCloth().back(), NO);
  }

  private static int[] all(OneCloth x) {
    int[] row = new int[80];
    int n = 0;
    for (int i = 0; i < 7; i++) row[n++] = i == 4 || i == 5 ? 0 : x.count(i);
    for (int i = 0; i < 7; i++) row[n++] = x.cloth(i);
    for (int i = 0; i < 4; i++) row[n++] = x.book(i);
    for (int i = 0; i < 3; i++) row[n++] = x.why(i);
    for (int i = 0; i < 5; i++) for (int what = 0; what < 7; what++) row[n++] = x.told(i, what);
    row[n++] = x.fee();
    row[n++] = x.fine(0);
    row[n++] = x.textTold(0, 1);
    row[n++] = x.textTold(1, 0);
    row[n++] = x.textTold(2, 0);
    row[n++] = x.behind(50, 0);
    return row;
  }

  private static void count() {
    promise(40);
    OneCloth x = still();
    x.stall(0, 0, 0);
    x.stall(0, 0, 0);
    x.stall(0, 5, 0);
    x.hours(1);
    x.tell(1);
    text(x, "fee 1");
    x.feed(0, 0, 0);
    int[] counts = {3, 1, 2, 1, 1, 12, 1103527590};
    for (int i = 0; i < 7; i++) due(x.count(i), counts[i]);
    due(x.count(7), BAD);
    due(x.count(-1), BAD);
  }
}
