import java.io.IOException;

/** The sentences of the promises: for each a test of its own, at its boundaries; what is refused changes nothing. */
public final class BoundaryTests extends Sentences {

  public static void main(String[] args) throws IOException {
    read(args);
    newObject(); stall(); told(); as(); turns(); set(); cloth(); rule(); deal(); seed();
    hours(); book();
    behind(); goods(); best(); wider(); shaded(); without(); whose(); fee(); fine();
    feed(); trim(); text(); textTold(); why();
    sheet(); mark(); pour(); reads(); copy(); lay(); ask(); item(); rest();
    tell(); check(); keep(); back(); count();
    end("Promise");
  }

  private static OneCloth one(OneCloth x, int kind, int place, int pay) {
    x.stall(kind, place, pay);
    return x;
  }

  /** As busy, but all is as THE IMAGE: STALL 4 and the third TEXT are gone. */
  private static OneCloth gone() {
    OneCloth x = busy();
    x.back();
    return x;
  }

  private static OneCloth last() { return one(at(9999, 0, 3), 0, 11, 5); }

  // ---------------------------------------------------------------- stalls, the cloth

  private static void newObject() {
    in("Promise 1");
    sentence("As told; no STALLS.");
    OneCloth x = new OneCloth();
    int[] counts = {0, 0, 0, 0, 0, 0, 1};
    for (int i = 0; i < counts.length; i++) due(x.count(i), counts[i]);
    int[] cloth = {0, 3, 10, 0, 20, 0, 0};
    for (int i = 0; i < cloth.length; i++) due(x.cloth(i), cloth[i]);
    for (int i = 0; i < 4; i++) due(x.book(i), 0);
    for (int i = 0; i < 9; i++) due(x.told(i, 0), BAD);
    for (int i = 0; i < 14; i++) due(x.textTold(i, 0), BAD);
    due(x.back(), NO);
    // What one object does is nothing to another one.
    OneCloth y = new OneCloth();
    busy();
    full();
    same(y, new OneCloth());
  }

  private static void stall() {
    in("Promise 2");
    sentence("One more STALL: its number.");
    OneCloth x = new OneCloth();
    for (int i = 0; i < 9; i++) {
      due(x.stall(i % 6, i + 3, 99 - i), i);
      due(x.count(0), i + 1);
    }
    for (int i = 0; i < 9; i++) {
      due(x.told(i, 0), i % 6);
      due(x.told(i, 1), i + 3);
      due(x.told(i, 2), 100);
      due(x.told(i, 3), 99 - i);
    }
    // Numbers that an IMAGE does not have are given again, with nothing of those that bore them.
    OneCloth y = gone();
    due(y.stall(2, 6, 1), 4);
    int[] told = {2, 6, 100, 1};
    for (int what = 0; what < 4; what++) due(y.told(4, what), told[what]);

    sentence("BAD; FULL.");
    for (int kind : outside(0, 5)) refused(Sentences::busy, BAD, b -> b.stall(kind, 0, 0));
    for (int place : outside(0, 11)) refused(Sentences::busy, BAD, b -> b.stall(0, place, 0));
    for (int pay : outside(0, 99)) refused(Sentences::busy, BAD, b -> b.stall(0, 0, pay));
    refused(Sentences::full, FULL, f -> f.stall(0, 0, 0));
    refused(Sentences::full, FULL, f -> f.stall(5, 11, 99));
    for (int v : new int[] {-1, 100}) refused(Sentences::full, BAD, f -> f.stall(v, v, v));
  }

  private static void told() {
    in("Promise 3");
    sentence("Of a STALL: what 0 KIND, 1 PLACE, 2 GOODS, 3 PAY, 4 what it SPOILS now, 5 whether it is in SHADE (1, 0), 6 WORTH.");
    OneCloth x = one(one(at(5, 4, 3), 3, 7, 99), 4, 6, 0);
    x.set(0, 2, 22);
    int[] first = {3, 7, 22, 99, 22, 0, 210};
    int[] second = {4, 6, 100, 0, 2, 1, 91};
    for (int what = 0; what < 7; what++) {
      due(x.told(0, what), first[what]);
      due(x.told(1, what), second[what]);
    }
    // Now: as the HOUR, THE CLOTH and the TEXT are. At HOUR 7 SHADE is 5 .. 7.
    x.hours(2);
    due(x.told(0, 2), 0);
    due(x.told(0, 5), 1);
    x.set(0, 2, 30);
    due(x.told(0, 4), 0);
    x.rule(0, 0);
    due(x.told(0, 4), 19);
    due(text(x, "melt 3"), 0);
    due(x.told(0, 4), 11);
    due(x.told(0, 4), 11);

    sentence("BAD.");
    for (int v : outside(0, 4)) refused(Sentences::busy, BAD, b -> b.told(v, 0));
    for (int v : outside(0, 6)) refused(Sentences::busy, BAD, b -> b.told(0, v));
    for (int v : outside(0, 8)) refused(Sentences::full, BAD, f -> f.told(v, 0));
    due(full().told(8, 3), 8);
    due(new OneCloth().told(0, 0), BAD);
    due(gone().told(4, 0), BAD);
    due(gone().told(3, 0), 5);
  }

  private static void as() {
    in("Promise 4");
    sentence("A STALL as one of a KIND: PAY.");
    OneCloth x = one(new OneCloth(), 3, 0, 99);
    due(x.as(0, 3), 99);
    due(x.as(0, 1), 99);
    due(x.as(0, 0), 99);
    x.set(0, 3, 0);
    due(x.as(0, 3), 0);

    sentence("BAD: stall, kind;");
    for (int v : outside(0, 4)) refused(Sentences::busy, BAD, b -> b.as(v, 0));
    for (int v : outside(0, 5)) refused(Sentences::busy, BAD, b -> b.as(0, v));
    due(gone().as(4, 0), BAD);

    sentence("KIND: it is not of that KIND, nor of one under it.");
    int[][] not = {{1, 2, 3, 4, 5}, {2, 3, 4, 5}, {1, 3, 4, 5}, {2, 4, 5}, {1, 3, 5}, {1, 2, 3, 4}};
    for (int kind = 0; kind < 6; kind++) {
      int k = kind;
      for (int other : not[kind]) refused(() -> one(busy(), k, 0, 7), KIND, b -> b.as(5, other));
    }
    // A STALL that turns is no longer of the KIND that it was.
    OneCloth y = one(new OneCloth(), 3, 0, 9);
    y.turns(0, 4);
    due(y.as(0, 1), KIND);
    due(y.as(0, 2), 9);
  }

  private static void turns() {
    in("Promise 5");
    sentence("A STALL is of another KIND from now on: what it was.");
    OneCloth x = one(at(5), 0, 11, 40);
    int[] worth = {40, 46, 59, 92, 51, 2};
    int[] loss = {9, 18, 0, 23, 0, 4};
    int was = 0;
    for (int kind : new int[] {5, 4, 3, 2, 1, 0, 0, 3}) {
      due(x.turns(0, kind), was);
      due(x.told(0, 0), kind);
      due(x.told(0, 6), worth[kind]);
      due(x.told(0, 4), loss[kind]);
      due(x.told(0, 1), 11);
      due(x.told(0, 2), 100);
      due(x.told(0, 3), 40);
      was = kind;
    }
    due(x.hours(1), 23);

    sentence("BAD.");
    for (int v : outside(0, 4)) refused(Sentences::busy, BAD, b -> b.turns(v, 0));
    for (int v : outside(0, 5)) refused(Sentences::busy, BAD, b -> b.turns(0, v));
    refused(BoundaryTests::gone, BAD, b -> b.turns(4, 0));
  }

  private static void set() {
    in("Promise 6");
    sentence("PLACE, GOODS, PAY (what 1 .. 3) of a STALL becomes v: what it was.");
    int[] most = {0, 11, 999, 99};
    for (int what = 1; what <= 3; what++) {
      OneCloth x = full();
      int[] was = {x.told(8, 0), x.told(8, 1), x.told(8, 2), x.told(8, 3)};
      due(x.set(8, what, most[what]), was[what]);
      due(x.told(8, what), most[what]);
      due(x.set(8, what, 0), most[what]);
      due(x.told(8, what), 0);
      due(x.set(8, what, 1), 0);
      for (int other = 0; other < 4; other++) due(x.told(8, other), other == what ? 1 : was[other]);
      due(x.told(7, what), what == 2 ? 100 : 7);
    }

    sentence("BAD.");
    for (int what = 1; what <= 3; what++) {
      int w = what;
      for (int v : outside(0, most[what])) refused(Sentences::busy, BAD, b -> b.set(0, w, v));
      for (int v : outside(0, 4)) refused(Sentences::busy, BAD, b -> b.set(v, w, 1));
      refused(BoundaryTests::gone, BAD, b -> b.set(4, w, 1));
    }
    for (int v : outside(1, 3)) refused(Sentences::busy, BAD, b -> b.set(0, v, 1));
  }

  private static void cloth() {
    in("Promise 7");
    sentence("Of THE CLOTH, the sun: what 0 FIRST, 1 WIDTH, 2 GUST, 3 MODE, 4 HEAT, 5 the first PLACE in SHADE (NONE: none is), 6 STALLS in SHADE, as a set.");
    OneCloth x = at(9, 6, 6);
    x.rule(2, 100);
    x.rule(3, 2);
    for (int place = 3; place < 12; place++) x.stall(0, place, 0);
    // SHADE is 8 .. 11; STALLS 5 .. 8 stand there.
    int[] told = {6, 6, 100, 2, 25, 8, 0b111100000};
    for (int what = 0; what < 7; what++) due(x.cloth(what), told[what]);
    // SHADE below PLACE 0, from it on, up to 11, beyond it.
    due(at(0, 0, 1).cloth(5), NONE);
    due(at(0, 1, 1).cloth(5), NONE);
    due(at(0, 0, 2).cloth(5), NONE);
    due(at(0, 2, 1).cloth(5), 0);
    due(at(0, 0, 3).cloth(5), 0);
    due(at(0, 1, 2).cloth(5), 0);
    due(at(9, 11, 1).cloth(5), NONE);
    due(at(9, 10, 1).cloth(5), NONE);
    due(at(9, 10, 2).cloth(5), NONE);
    due(at(9, 9, 1).cloth(5), 11);
    due(at(9, 9, 3).cloth(5), 11);
    due(at(7, 11, 1).cloth(5), NONE);
    due(at(7, 10, 1).cloth(5), 11);
    due(one(at(0, 0, 1), 0, 0, 0).cloth(6), 0);
    due(one(at(9, 11, 1), 0, 11, 0).cloth(6), 0);
    // A STALL that is gone is in no set.
    OneCloth y = at(5);
    y.keep();
    y.stall(0, 0, 0);
    due(y.cloth(6), 1);
    y.back();
    due(y.cloth(6), 0);

    sentence("BAD.");
    for (int v : outside(0, 6)) refused(Sentences::busy, BAD, b -> b.cloth(v));
  }

  private static void rule() {
    in("Promise 8");
    sentence("FIRST (0 .. 12 less WIDTH), WIDTH (FIRST is held within its bounds then), GUST, MODE (what 0 .. 3) becomes v: what it was.");
    for (int width = 1; width <= 6; width++) {
      OneCloth x = new OneCloth();
      due(x.rule(1, width), 3);
      due(x.rule(0, 12 - width), 0);
      due(x.rule(0, 0), 12 - width);
      due(x.rule(0, 13 - width), BAD);
      due(x.cloth(0), 0);
    }
    // FIRST 11, then wider and wider; narrower again it stays.
    OneCloth w = at(0, 11, 1);
    for (int width = 2; width <= 6; width++) {
      due(w.rule(1, width), width - 1);
      due(w.cloth(0), 12 - width);
    }
    due(w.rule(1, 1), 6);
    due(w.cloth(0), 6);
    due(w.rule(1, 6), 1);
    due(w.cloth(0), 6);
    due(w.rule(0, 5), 6);
    due(w.rule(1, 5), 6);
    due(w.cloth(0), 5);
    OneCloth g = new OneCloth();
    due(g.rule(2, 100), 10);
    due(g.rule(2, 0), 100);
    due(g.rule(2, 1), 0);
    due(g.rule(3, 2), 0);
    due(g.rule(3, 0), 2);
    due(g.rule(3, 1), 0);
    int[] is = {0, 3, 1, 1};
    for (int what = 0; what < 4; what++) due(g.cloth(what), is[what]);

    sentence("BAD.");
    int[][] bounds = {{0, 9}, {1, 6}, {0, 100}, {0, 2}};
    for (int what = 0; what < 4; what++) {
      int k = what;
      for (int v : outside(bounds[what][0], bounds[what][1])) refused(Sentences::busy, BAD, b -> b.rule(k, v));
    }
    for (int v : outside(0, 3)) refused(Sentences::busy, BAD, b -> b.rule(v, 1));
  }

  private static void deal() {
    in("Promise 9");
    sentence("STALLS are drawn, n (1 .. 9) of them, as many as there is room for (no draws for others): how many came.");
    for (int there = 0; there <= 9; there++) {
      for (int n : new int[] {1, 2, 9}) {
        OneCloth x = new OneCloth();
        for (int i = 0; i < there; i++) x.stall(0, 0, 0);
        int came = Math.min(n, 9 - there);
        due(x.deal(n), came);
        due(x.count(0), there + came);
        int z = 1;
        for (int i = 0; i < 3 * came; i++) z = next(z);
        due(x.count(6), z);
        if (came > 0) due(x.told(there, 2), 100);
      }
    }
    // From 1: 1103527590, -1770082073, .. as the document says draws are made.
    OneCloth d = new OneCloth();
    d.deal(1);
    due(d.told(0, 0), (1103527590 >>> 8) % 6);
    due(d.told(0, 1), (-1770082073 >>> 8) % 12);
    unchanged(Sentences::full, 0, f -> f.deal(9));

    sentence("BAD.");
    for (int v : outside(1, 9)) refused(Sentences::busy, BAD, b -> b.deal(v));
    for (int v : outside(1, 9)) refused(Sentences::full, BAD, f -> f.deal(v));
  }

  private static void seed() {
    in("Promise 10");
    sentence("z becomes v: what it was.");
    OneCloth x = new OneCloth();
    int was = 1;
    for (int v : new int[] {LEAST, MOST, 0, -1, NONE, BAD}) {
      due(x.seed(v), was);
      due(x.count(6), v);
      was = v;
    }
  }

  // ---------------------------------------------------------------- hours

  private static void hours() {
    in("Promise 11");
    sentence("n (1 .. 100) HOURS (no more than up to 9999): what was SPOILT in them.");
    OneCloth x = one(still(), 0, 11, 5);
    due(x.hours(1), 4);
    due(x.count(1), 1);
    due(x.hours(3), 5 + 6 + 7);
    due(x.count(1), 4);
    due(x.hours(100), 100 - 22);
    due(x.count(1), 104);
    due(x.hours(100), 0);
    due(x.count(1), 204);
    // Ten HOURS from the last, then none: no haul, no loss, no draw.
    OneCloth y = one(at(9989, 0, 3), 0, 11, 5);
    y.set(0, 2, 999);
    y.rule(3, 1);
    int z = y.count(6);
    due(y.behind(100, 0), 999 - y.goods(0, 100));
    int lost = y.behind(10, 0);
    int first = y.behind(10, 2);
    due(y.hours(11), lost);
    due(y.count(1), 9999);
    due(y.cloth(0), first);
    for (int i = 0; i < 10; i++) z = next(z);
    due(y.count(6), z);
    OneCloth exact = one(at(9899, 0, 3), 0, 11, 5);
    due(exact.hours(100), 100);
    due(exact.count(1), 9999);
    unchanged(BoundaryTests::last, 0, l -> l.hours(1));
    unchanged(BoundaryTests::last, 0, l -> l.hours(100));

    sentence("BAD.");
    for (int v : outside(1, 100)) refused(Sentences::busy, BAD, b -> b.hours(v));
    for (int v : outside(1, 100)) refused(BoundaryTests::last, BAD, b -> b.hours(v));
  }

  private static void book() {
    in("Promise 12");
    sentence("What was 0 SPOILT, 1 COINS, 2 TORN, and 3 GOODS of all, together.");
    for (int what = 0; what < 4; what++) due(new OneCloth().book(what), 0);
    OneCloth x = at(4, 0, 3);
    for (int i = 0; i < 9; i++) x.stall(0, i < 3 ? 0 : 11, 99);
    for (int i = 0; i < 9; i++) x.set(i, 2, 999);
    due(x.book(3), 9 * 999);
    x.rule(2, 100);
    x.seed(windOf(-1));
    x.hours(1);
    due(x.book(0), 6 * 8);
    due(x.book(1), 3 * 99);
    due(x.book(2), 1);
    due(x.book(3), 9 * 999 - 6 * 8);
    // GOODS that are set, or poured, are not SPOILT.
    x.set(0, 2, 0);
    due(x.book(0), 48);
    due(x.book(3), 8 * 999 - 48);

    sentence("BAD.");
    for (int v : outside(0, 3)) refused(Sentences::busy, BAD, b -> b.book(v));
  }

  // ---------------------------------------------------------------- what will be

  private static void behind() {
    in("Promise 13");
    sentence("BEHIND n (0 .. 100) HOURS: what 0 SPOILT, 1 COINS, 2 FIRST, 3 TORN.");
    for (int n : new int[] {0, 1, 2, 99, 100}) {
      OneCloth x = busy();
      int[] then = new int[4];
      for (int what = 0; what < 4; what++) then[what] = x.behind(n, what);
      if (n > 0) x.hours(n);
      int[] is = {x.book(0), x.book(1), x.cloth(0), x.book(2)};
      for (int what = 0; what < 4; what++) due(then[what], is[what]);
    }
    // What was SPOILT and earned ahead of it is in it.
    OneCloth y = one(one(at(4, 0, 3), 0, 11, 0), 2, 0, 7);
    y.hours(1);
    due(y.behind(0, 0), 8);
    due(y.behind(1, 0), 17);
    due(y.behind(0, 1), 7);
    due(y.behind(1, 1), 14);

    sentence("BAD.");
    for (int v : outside(0, 100)) refused(Sentences::busy, BAD, b -> b.behind(v, 0));
    for (int v : outside(0, 3)) refused(Sentences::busy, BAD, b -> b.behind(1, v));
  }

  private static void goods() {
    in("Promise 14");
    sentence("GOODS of a STALL behind n (0 .. 100).");
    OneCloth x = one(one(at(4, 0, 3), 0, 11, 0), 2, 11, 0);
    due(x.goods(0, 0), 100);
    due(x.goods(0, 1), 92);
    due(x.goods(0, 2), 83);
    due(x.goods(0, 100), 0);
    due(x.goods(1, 100), 100);
    x.set(0, 2, 999);
    // From HOUR 4 on a hundred: ten days of 65.
    due(x.goods(0, 100), 999 - 650);
    due(x.goods(0, 99), 999 - 650 + 7);

    sentence("BAD.");
    for (int v : outside(0, 4)) refused(Sentences::busy, BAD, b -> b.goods(v, 1));
    for (int v : outside(0, 100)) refused(Sentences::busy, BAD, b -> b.goods(0, v));
    due(gone().goods(4, 0), BAD);
  }

  private static void best() {
    in("Promise 15");
    sentence("BEST HAULING of n (1 .. 5) HOURS: what 0 the digits, 1 SPOILT then.");
    // Up at once, then not, as long as o is 0 (HOURS 4 to 6); at HOUR 7 one down again; HOUR 8 is as HOUR 7.
    int[] digits = {2, 6, 18, 55, 165};
    for (int n = 1; n <= 5; n++) {
      OneCloth x = one(at(4, 4, 1), 0, 5, 0);
      due(x.best(n, 0), digits[n - 1]);
      due(x.best(n, 1), 0);
    }
    // Too far off for four, not for five: HOUR 2, where 0 .. 2 has its SHADE one lower, to HOUR 6.
    OneCloth far = one(at(2, 0, 1), 0, 5, 0);
    due(far.best(4, 0), 0);
    due(far.best(4, 1), 6 + 7 + 8 + 9);
    due(far.best(5, 0), 242);
    due(far.best(5, 1), 6 + 7 + 8 + 9);
    // What was SPOILT ahead is in it.
    far.hours(1);
    due(far.best(1, 1), 6 + 7);
    due(new OneCloth().best(1, 0), 0);
    due(new OneCloth().best(5, 1), 0);

    sentence("BAD.");
    for (int v : outside(1, 5)) refused(Sentences::busy, BAD, b -> b.best(v, 0));
    for (int v : outside(0, 1)) refused(Sentences::busy, BAD, b -> b.best(1, v));
  }

  private static void wider() {
    in("Promise 16");
    sentence("WIDER for w (0 .. 9999), n (1 .. 60).");
    due(new OneCloth().wider(0, 1), 1);
    due(new OneCloth().wider(0, 60), 1);
    due(new OneCloth().wider(9999, 60), 1);
    OneCloth x = one(at(4, 0, 3), 0, 3, 0);
    due(x.wider(0, 1), 4);
    due(x.wider(7, 1), 4);
    due(x.wider(8, 1), 1);
    due(x.wider(9999, 1), 1);
    // HOURS 4, 5, 6 want a WIDTH of 4, or 25 are lost; at HOUR 7 o is 1, and 3 are enough, or 7 more are lost.
    due(x.wider(0, 4), 4);
    due(x.wider(24, 4), 4);
    due(x.wider(25, 4), 3);
    due(x.wider(31, 4), 3);
    due(x.wider(32, 4), 1);
    due(x.cloth(1), 3);

    sentence("BAD; NONE: none is enough.");
    OneCloth far = one(at(4, 0, 3), 0, 6, 0);
    due(far.wider(7, 1), NONE);
    due(far.wider(0, 60), NONE);
    for (int v : outside(0, 9999)) refused(Sentences::busy, BAD, b -> b.wider(v, 1));
    for (int v : outside(1, 60)) refused(Sentences::busy, BAD, b -> b.wider(0, v));
    // SPOILT can be more than any w: then none is.
    OneCloth much = at(4, 0, 3);
    text(much, "melt g");
    for (int i = 0; i < 9; i++) much.stall(0, 11, 0);
    for (int again = 0; again < 2; again++) {
      for (int i = 0; i < 9; i++) much.set(i, 2, 999);
      much.hours(1);
    }
    due(much.book(0), 2 * 8991);
    due(much.wider(9999, 1), NONE);
  }

  private static void shaded() {
    in("Promise 17");
    sentence("SHADED of a STALL in n (1 .. 60).");
    // FIRST 4, WIDTH 1: SHADE at 2 2 3 3 4 4 4 5 5 6 in the HOURS of a day.
    OneCloth x = at(0, 4, 1);
    for (int place = 2; place <= 7; place++) x.stall(0, place, 0);
    int[] aDay = {2, 2, 3, 2, 1, 0};
    for (int i = 0; i < 6; i++) {
      due(x.shaded(i, 1), i == 0 ? 1 : 0);
      due(x.shaded(i, 10), aDay[i]);
      due(x.shaded(i, 60), 6 * aDay[i]);
    }
    due(x.shaded(4, 9), 0);

    sentence("BAD.");
    for (int v : outside(0, 4)) refused(Sentences::busy, BAD, b -> b.shaded(v, 1));
    for (int v : outside(1, 60)) refused(Sentences::busy, BAD, b -> b.shaded(0, v));
    due(gone().shaded(4, 1), BAD);
  }

  private static void without() {
    in("Promise 18");
    sentence("WITHOUT for n (1 .. 60): what 0 the STALL, 1 COINS then.");
    // At PLACE 0 there is SHADE in 7 HOURS of a day, from HOUR 0 on; at PLACE 1 in HOURS 2 to 8.
    OneCloth x = one(one(still(), 2, 0, 9), 2, 1, 8);
    due(x.without(1, 0), 1);
    due(x.without(1, 1), 9);
    due(x.without(60, 0), 1);
    due(x.without(60, 1), 6 * 7 * 9);
    // COINS that were there are in it.
    x.hours(10);
    due(x.without(1, 1), 7 * 9 + 7 * 8 + 9);

    sentence("BAD; NONE: there are no STALLS.");
    for (int v : outside(1, 60)) refused(Sentences::busy, BAD, b -> b.without(v, 0));
    for (int v : outside(0, 1)) refused(Sentences::busy, BAD, b -> b.without(1, v));
    for (int v : outside(1, 60)) refused(OneCloth::new, BAD, b -> b.without(v, 0));
    for (int n : new int[] {1, 60}) for (int what : new int[] {0, 1}) refused(OneCloth::new, NONE, b -> b.without(n, what));
    OneCloth y = new OneCloth();
    y.keep();
    y.stall(0, 0, 0);
    due(y.without(1, 0), 0);
    y.back();
    due(y.without(1, 0), NONE);
  }

  private static void whose() {
    in("Promise 19");
    sentence("WHOSE HAND by a SHEET, for n (0 .. 60): what 0 the MODE, 1 the differences, together.");
    OneCloth x = one(one(at(4, 4, 1), 0, 3, 0), 0, 11, 0);
    x.sheet(3, 0, 2);
    due(x.whose(3, 0, 0), 0);
    due(x.whose(3, 0, 1), 200);
    // 92 and 92 by MODES 0 and 2; by MODE 1, hauled down, 100 and 92.
    due(x.whose(3, 1, 0), 0);
    due(x.whose(3, 1, 1), 184);
    x.mark(3, 0, 97);
    x.mark(3, 1, 92);
    due(x.whose(3, 1, 0), 1);
    due(x.whose(3, 1, 1), 3);
    due(x.whose(3, 60, 1), 97 + 92 - x.goods(0, 60) - x.goods(1, 60));
    due(x.cloth(3), 0);

    sentence("BAD; NOTHING.");
    for (int v : outside(0, 3)) refused(Sentences::busy, BAD, b -> b.whose(v, 1, 0));
    for (int v : outside(0, 60)) refused(Sentences::busy, BAD, b -> b.whose(0, v, 0));
    for (int v : outside(0, 1)) refused(Sentences::busy, BAD, b -> b.whose(0, 1, v));
    refused(Sentences::busy, NOTHING, b -> b.whose(2, 0, 0));
    refused(Sentences::busy, NOTHING, b -> b.whose(2, 60, 1));
    for (int v : outside(0, 60)) refused(Sentences::busy, BAD, b -> b.whose(2, v, 0));
    for (int v : outside(0, 1)) refused(Sentences::busy, BAD, b -> b.whose(2, 1, v));
  }

  private static void fee() {
    in("Promise 20");
    sentence("What fee gives.");
    OneCloth x = one(at(4, 0, 3), 2, 0, 99);
    due(x.fee(), 0);
    x.hours(2);
    due(x.fee(), 198);
    text(x, "fee 0-c");
    due(x.fee(), -198);
    // It is not held within anything, and may be what a refusal is.
    text(x, "fee 0-9999*9999*10-9998*2000-2+1");
    due(x.fee(), -9999 * 9999 * 10 - 9998 * 2000 - 1);
    text(x, "fee 0-1000*1000*1000-1");
    due(x.fee(), BAD);
    unchanged(Sentences::busy, busy().fee(), OneCloth::fee);
  }

  private static void fine() {
    in("Promise 21");
    sentence("What fine gives for a STALL.");
    OneCloth x = full();
    for (int i = 0; i < 9; i++) x.set(i, 2, 111 * i);
    for (int i = 0; i < 9; i++) due(x.fine(i), 111 * i);
    OneCloth y = one(one(at(4, 0, 3), 0, 2, 0), 0, 3, 0);
    text(y, "fine s*1000-g");
    due(y.fine(0), 900);
    due(y.fine(1), -100);
    y.rule(0, 1);
    due(y.fine(1), 900);
    y.hours(3);
    // HOUR 7: SHADE is 2 .. 4.
    due(y.fine(0), 900);
    y.rule(0, 2);
    due(y.fine(0), -100);

    sentence("BAD.");
    for (int v : outside(0, 4)) refused(Sentences::busy, BAD, b -> b.fine(v));
    for (int v : outside(0, 8)) refused(Sentences::full, BAD, b -> b.fine(v));
    due(gone().fine(4), BAD);
    due(new OneCloth().fine(0), BAD);
  }

  // ---------------------------------------------------------------- texts

  private static void feed() {
    in("Promise 22");
    sentence("Twelve bytes come to THE TAPE, the highest of each number first: how many it has.");
    OneCloth x = new OneCloth();
    // "fee " "1234" "*10 "
    due(x.feed(0x66656520, 0x31323334, 0x2a313020), 12);
    due(x.text(), 0);
    due(x.fee(), 12340);
    // A second feed comes behind the first: "fee 1234*10 " "+1+20-2*(c) ".
    x.feed(0x66656520, 0x31323334, 0x2a313020);
    due(x.feed(0x2b312b32, 0x302d322a, 0x28632920), 24);
    due(x.text(), 1);
    due(x.fee(), 12361);
    for (int i = 1; i <= 8; i++) due(x.feed(LEAST, MOST, -1), 12 * i);
    due(x.count(5), 96);

    sentence("FULL: it would have more than 96.");
    refused(Sentences::full, FULL, f -> f.feed(0, 0, 0));
    for (int n = 80; n <= 96; n++) {
      int length = n;
      OneCloth f = full();
      f.trim(n);
      if (n <= 84) due(f.feed(0, 0, 0), n + 12);
      else refused(() -> trimmed(length), FULL, t -> t.feed(0, 0, 0));
    }
  }

  private static OneCloth trimmed(int n) {
    OneCloth x = full();
    x.trim(n);
    return x;
  }

  private static void trim() {
    in("Promise 23");
    sentence("THE TAPE keeps its first n bytes: n.");
    for (int n : new int[] {96, 95, 12, 1, 0}) {
      OneCloth x = full();
      due(x.trim(n), n);
      due(x.count(5), n);
      if (n < 96) due(x.trim(n + 1), BAD);
      due(x.trim(n), n);
    }
    // The first: those behind them are gone for good.
    OneCloth y = new OneCloth();
    feed(y, "fee 123 45  ");
    due(y.trim(6), 6);
    due(y.feed(0x20202020, 0x20202020, 0x20202020), 18);
    due(y.text(), 0);
    due(y.fee(), 12);
    due(new OneCloth().trim(0), 0);

    sentence("BAD.");
    for (int v : outside(0, 12)) refused(Sentences::busy, BAD, b -> b.trim(v));
    for (int v : outside(0, 96)) refused(Sentences::full, BAD, b -> b.trim(v));
    for (int v : outside(0, 0)) refused(OneCloth::new, BAD, b -> b.trim(v));
  }

  private static void text() {
    in("Promise 24");
    sentence("THE TAPE is a TEXT: its number.");
    OneCloth x = new OneCloth();
    for (int i = 0; i < 14; i++) {
      due(text(x, "fee " + i + "+c"), i);
      due(x.count(3), i + 1);
      due(x.count(5), 0);
      due(x.fee(), i);
    }
    // All 96 bytes of THE TAPE.
    OneCloth y = new OneCloth();
    due(text(y, "fee " + "1+".repeat(45) + "10"), 0);
    due(y.fee(), 55);
    due(text(y, "fee (" + "1-".repeat(45) + ")"), -195);
    due(text(y, "fee " + "(".repeat(8) + "!0*9999/3+9999-9999+9999-9999+9999-9999+9999-9999+9999-9999+9999-9999+ 0" + ")".repeat(8)), 1);
    due(y.fee(), 3333);

    sentence("-100 less the place of its FAULT; FULL.");
    for (int place = 0; place <= 96; place++) {
      OneCloth f = new OneCloth();
      due(text(f, " ".repeat(place)), -100 - place);
      due(f.count(5), 0);
      due(f.count(3), 0);
      if (place < 96) faultAt(" ".repeat(place) + "#", place);
      if (place >= 6 && place < 96) faultAt("fee 0" + " ".repeat(place - 5) + ")", place);
    }
    // When there is no room a FAULT is told all the same.
    OneCloth full = full();
    due(text(full, "fee +"), -104);
    due(text(full, "fee 1"), FULL);
    due(full.count(5), 0);
    due(full.count(3), 14);
    due(full.fee(), 13);
    due(full.why(1), 13);
    // A FAULT changes nothing but THE TAPE.
    OneCloth b = busy();
    due(text(b, "melt 9+"), -107);
    OneCloth c = busy();
    c.trim(0);
    same(b, c);
    OneCloth d = full();
    due(d.text(), FULL);
    OneCloth e = full();
    e.trim(0);
    same(d, e);
  }

  private static void textTold() {
    in("Promise 25");
    sentence("Of a TEXT: what 0 KEY (0 melt, 1 fee, 2 fine), 1 how many NUMBERS and NAMES it has.");
    OneCloth x = new OneCloth();
    String[] texts = {"melt h", "fee 0", "fine !(g)", "fine g+s*g", "fee " + "1+".repeat(45) + "c", "melt ((h*12)&(g|!p))=7"};
    int[] keys = {0, 1, 2, 2, 1, 0};
    int[] leaves = {1, 1, 1, 3, 46, 5};
    for (int i = 0; i < 6; i++) {
      due(text(x, texts[i]), i);
      due(x.textTold(i, 0), keys[i]);
      due(x.textTold(i, 1), leaves[i]);
    }
    // Of those that no longer count too.
    for (int i = 0; i < 6; i++) due(x.textTold(i, 1), leaves[i]);
    due(full().textTold(13, 1), 1);

    sentence("BAD.");
    for (int v : outside(0, 2)) refused(Sentences::busy, BAD, b -> b.textTold(v, 0));
    for (int v : outside(0, 1)) refused(Sentences::busy, BAD, b -> b.textTold(0, v));
    for (int v : outside(0, 13)) refused(Sentences::full, BAD, b -> b.textTold(v, 0));
    due(new OneCloth().textTold(0, 0), BAD);
    due(gone().textTold(2, 0), BAD);
  }

  private static void why() {
    in("Promise 26");
    sentence("The TEXT that counts for a KEY.");
    OneCloth x = new OneCloth();
    text(x, "fine 1");
    text(x, "melt 1");
    text(x, "fine 2");
    text(x, "fee 2");
    int[] counting = {1, 3, 2};
    for (int key = 0; key < 3; key++) due(x.why(key), counting[key]);
    due(full().why(1), 13);

    sentence("BAD; NONE.");
    for (int v : outside(0, 2)) refused(Sentences::busy, BAD, b -> b.why(v));
    for (int v : outside(0, 2)) refused(OneCloth::new, BAD, b -> b.why(v));
    for (int key = 0; key < 3; key++) due(new OneCloth().why(key), NONE);
    due(full().why(0), NONE);
    due(full().why(2), NONE);
    due(gone().why(2), NONE);
    due(gone().why(1), 0);
  }

  // ---------------------------------------------------------------- sheets, slots

  private static int placeOf(OneCloth x, int sheet, int place) {
    x.lay(4, 2, sheet);
    return x.item(4, place);
  }

  private static void sheet() {
    in("Promise 27");
    sentence("A SHEET becomes a row of n places of a sort, all 0 (sort -1: MISSING, n any): n (0).");
    for (int sheet = 0; sheet < 4; sheet++) {
      for (int sort = 0; sort < 2; sort++) {
        for (int n : new int[] {24, 1, 0, 23}) {
          OneCloth x = busy();
          due(x.sheet(sheet, sort, n), n);
          for (int place = 0; place < n; place++) due(placeOf(x, sheet, place), 0);
          due(placeOf(x, sheet, n), INDEX);
          if (n > 0) due(x.mark(sheet, 0, NONE), sort == 0 ? KIND : 1);
        }
      }
    }
    // Longer again: what was there does not come back, nor does NO NUMBER.
    OneCloth y = busy();
    y.sheet(1, 1, 1);
    y.sheet(1, 1, 4);
    for (int place = 0; place < 4; place++) due(placeOf(y, 1, place), 0);
    y.mark(1, 3, NONE);
    y.sheet(1, 0, 4);
    due(placeOf(y, 1, 3), 0);
    for (int n : new int[] {LEAST, -1, 0, 24, 25, MOST}) {
      OneCloth x = busy();
      due(x.sheet(0, -1, n), 0);
      due(x.mark(0, 0, 0), NOTHING);
      due(x.sheet(0, -1, n), 0);
    }

    sentence("BAD: sheet, sort, n above 24; SIZE.");
    for (int v : outside(0, 3)) for (int n : new int[] {-1, 1, 25}) refused(Sentences::busy, BAD, b -> b.sheet(v, 0, n));
    for (int v : outside(0, 3)) refused(Sentences::busy, BAD, b -> b.sheet(v, -1, 0));
    for (int v : outside(-1, 1)) for (int n : new int[] {-1, 1, 25}) refused(Sentences::busy, BAD, b -> b.sheet(0, v, n));
    for (int sort = 0; sort < 2; sort++) {
      int s = sort;
      for (int n : new int[] {25, 26, MOST}) refused(Sentences::busy, BAD, b -> b.sheet(0, s, n));
      for (int n : new int[] {-1, -2, LEAST}) refused(Sentences::busy, SIZE, b -> b.sheet(0, s, n));
    }
  }

  private static void mark() {
    in("Promise 28");
    sentence("A place of a SHEET becomes v (of shorts its lowest 16 bits; of floats v, -99999 .. 99999; NONE: NO NUMBER): 1.");
    OneCloth x = new OneCloth();
    x.sheet(0, 0, 24);
    x.sheet(1, 1, 24);
    int[] marks = {0, 1, -1, 32767, 32768, -32768, -32769, 65535, 65536, 65537, LEAST, MOST, BAD, 99999, NONE + 1, NONE - 1};
    for (int v : marks) {
      due(x.mark(0, 23, v), 1);
      due(placeOf(x, 0, 23), (v << 16) >> 16);
      due(x.mark(0, 0, v), 1);
      due(placeOf(x, 0, 0), (v << 16) >> 16);
    }
    due(placeOf(x, 0, 22), 0);
    for (int v : new int[] {0, 1, -1, 32768, 65536, 99999, -99999, 99998}) {
      due(x.mark(1, 23, v), 1);
      due(placeOf(x, 1, 23), v);
    }
    due(x.mark(1, 0, NONE), 1);
    due(placeOf(x, 1, 0), KIND);
    due(x.mark(1, 0, 0), 1);
    due(placeOf(x, 1, 0), 0);

    sentence("BAD: sheet;");
    for (int v : outside(0, 3)) {
      refused(Sentences::busy, BAD, b -> b.mark(v, 0, 0));
      refused(Sentences::busy, BAD, b -> b.mark(v, -1, NONE));
    }

    sentence("NOTHING;");
    refused(Sentences::busy, NOTHING, b -> b.mark(2, 0, 0));
    refused(Sentences::busy, NOTHING, b -> b.mark(2, -1, NONE));
    refused(Sentences::busy, NOTHING, b -> b.mark(2, 24, 100000));

    sentence("INDEX;");
    for (int v : outside(0, 5)) refused(Sentences::busy, INDEX, b -> b.mark(0, v, NONE));
    for (int v : outside(0, 3)) refused(Sentences::busy, INDEX, b -> b.mark(1, v, 100000));
    for (int v : new int[] {-1, 0, 1}) refused(Sentences::busy, INDEX, b -> b.mark(3, v, 0));

    sentence("KIND: NONE in a row of shorts;");
    for (int place : new int[] {0, 5}) refused(Sentences::busy, KIND, b -> b.mark(0, place, NONE));

    sentence("BAD: v of floats.");
    for (int v : new int[] {LEAST, -100000, 100000, MOST, BAD, NONE - 1, NONE + 1}) refused(Sentences::busy, BAD, b -> b.mark(1, 0, v));
  }

  private static void pour() {
    in("Promise 29");
    sentence("GOODS of STALLS, by numbers, become the places of a SHEET from 0 on (each held within 0 .. 999; NO NUMBER, and beyond the SHEET: they stay): how many are otherwise then.");
    int[] marks = {-99999, -1, 0, 1, 998, 999, 1000, 99999, NONE};
    int[] goods = {0, 0, 0, 1, 998, 999, 999, 999, 100};
    OneCloth x = full();
    x.sheet(0, 1, 24);
    for (int i = 0; i < 9; i++) x.mark(0, i, marks[i]);
    x.mark(0, 9, 7);
    due(x.pour(0), 8);
    for (int i = 0; i < 9; i++) due(x.told(i, 2), goods[i]);
    due(x.pour(0), 0);
    x.set(4, 2, 997);
    due(x.pour(0), 1);
    // Shorter than the STALLS are many; with no place at all; shorts below 0.
    OneCloth y = full();
    y.sheet(1, 0, 2);
    y.mark(1, 0, 32768);
    y.mark(1, 1, 100);
    due(y.pour(1), 1);
    due(y.told(0, 2), 0);
    due(y.told(1, 2), 100);
    due(y.told(2, 2), 100);
    y.sheet(1, 0, 0);
    due(y.pour(1), 0);
    OneCloth none = new OneCloth();
    none.sheet(0, 0, 24);
    due(none.pour(0), 0);
    // What is SPOILT, and the SHEET, stay.
    due(x.book(0), 0);
    due(placeOf(x, 0, 0), -99999);

    sentence("BAD; NOTHING.");
    for (int v : outside(0, 3)) refused(Sentences::busy, BAD, b -> b.pour(v));
    refused(Sentences::busy, NOTHING, b -> b.pour(2));
  }

  private static void reads() {
    in("Promise 30");
    sentence("The first place (of numbers alone) at which a SHEET is not what that STALL SPOILS now (of places that are no STALL all numbers are not).");
    // At HOUR 4 in the sun: 8, 16, 0, 21, 0, 4; the others as 0 and 1.
    int[] loss = {8, 16, 0, 21, 0, 4, 8, 16, 0};
    OneCloth x = at(4, 0, 3);
    for (int i = 0; i < 9; i++) x.stall(i % 6, 11, 0);
    x.sheet(0, 1, 24);
    for (int i = 9; i < 24; i++) x.mark(0, i, NONE);
    for (int i = 0; i < 9; i++) {
      due(x.mark(0, i, loss[i] + 1), 1);
      due(x.reads(0), i);
      x.mark(0, i, loss[i]);
    }
    due(x.reads(0), NONE);
    // Places that are no STALL: any number, 0 too.
    x.mark(0, 23, 0);
    due(x.reads(0), 23);
    x.mark(0, 9, 5);
    due(x.reads(0), 9);
    x.mark(0, 0, NONE);
    x.mark(0, 8, 1);
    due(x.reads(0), 8);
    // Now: at the next HOUR all is otherwise.
    x.mark(0, 8, NONE);
    x.hours(1);
    due(x.reads(0), 1);
    OneCloth none = new OneCloth();
    none.sheet(0, 0, 1);
    due(none.reads(0), 0);

    sentence("BAD; NOTHING; NONE: there is none.");
    for (int v : outside(0, 3)) refused(Sentences::busy, BAD, b -> b.reads(v));
    refused(Sentences::busy, NOTHING, b -> b.reads(2));
    refused(Sentences::busy, NONE, b -> b.reads(3));
    none.sheet(0, 1, 1);
    none.mark(0, 0, NONE);
    due(none.reads(0), NONE);
  }

  private static void copy() {
    in("Promise 31");
    sentence("So many places of a SHEET come to another one (or the same), as they were: many.");
    OneCloth x = busy();
    x.sheet(2, 0, 24);
    due(x.copy(0, 0, 2, 18, 6), 6);
    for (int i = 0; i < 24; i++) due(placeOf(x, 2, i), i < 18 ? 0 : i - 8);
    due(x.copy(2, 23, 0, 0, 1), 1);
    due(placeOf(x, 0, 0), 15);
    due(placeOf(x, 0, 1), 11);
    due(x.copy(2, 0, 2, 0, 24), 24);
    due(x.copy(0, 6, 2, 24, 0), 0);
    due(x.copy(3, 0, 0, 0, 0), 0);
    due(x.copy(0, 3, 3, 0, 0), 0);
    // The same one, up and down: as they were, not as they become.
    int[] up = {10, 10, 11, 12, 13, 14};
    int[] down = {11, 12, 13, 14, 15, 15};
    OneCloth u = busy();
    due(u.copy(0, 0, 0, 1, 5), 5);
    OneCloth d = busy();
    due(d.copy(0, 1, 0, 0, 5), 5);
    for (int i = 0; i < 6; i++) {
      due(placeOf(u, 0, i), up[i]);
      due(placeOf(d, 0, i), down[i]);
    }
    // NO NUMBER comes along.
    due(u.copy(1, 2, 1, 0, 1), 1);
    due(placeOf(u, 1, 0), KIND);

    sentence("BAD; NOTHING; KIND: they are not of one sort; INDEX.");
    for (int v : outside(0, 3)) {
      refused(Sentences::busy, BAD, b -> b.copy(v, 0, 0, 0, 1));
      refused(Sentences::busy, BAD, b -> b.copy(0, 0, v, 0, 1));
      refused(Sentences::busy, BAD, b -> b.copy(v, -1, 2, -1, -1));
      refused(Sentences::busy, BAD, b -> b.copy(2, -1, v, -1, -1));
    }
    for (int v : new int[] {-1, 0, 25}) {
      refused(Sentences::busy, NOTHING, b -> b.copy(2, v, 0, 0, 1));
      refused(Sentences::busy, NOTHING, b -> b.copy(0, v, 2, 0, 1));
      refused(Sentences::busy, NOTHING, b -> b.copy(2, 0, 2, 0, v));
      refused(Sentences::busy, KIND, b -> b.copy(0, v, 1, 0, 1));
      refused(Sentences::busy, KIND, b -> b.copy(1, 0, 0, v, 0));
    }
    int[][] beyond = {{0, 0, 7}, {0, 1, 6}, {1, 0, 6}, {6, 0, 1}, {0, 6, 1}, {7, 0, 0}, {0, 7, 0}, {-1, 0, 1}, {0, -1, 1}, {-1, 0, 0},
      {0, -1, 0}, {0, 0, -1}, {3, 3, -1}, {0, 0, LEAST}, {0, 0, MOST}, {MOST, 0, 1}, {0, MOST, 1}, {MOST, MOST, MOST}, {LEAST, 0, 1},
      {1, 0, MOST}, {0, 1, MOST}, {LEAST, LEAST, LEAST}};
    for (int[] v : beyond) refused(Sentences::busy, INDEX, b -> b.copy(0, v[0], 0, v[1], v[2]));
    refused(Sentences::busy, INDEX, b -> b.copy(0, 0, 3, 0, 1));
    refused(Sentences::busy, INDEX, b -> b.copy(3, 0, 0, 0, 1));

    sentence("(From a SHEET, its place, to a SHEET, its place.)");
    OneCloth f = busy();
    f.sheet(2, 0, 3);
    due(f.copy(0, 4, 2, 1, 2), 2);
    int[] came = {0, 14, 15};
    for (int i = 0; i < 3; i++) due(placeOf(f, 2, i), came[i]);
    for (int i = 0; i < 6; i++) due(placeOf(f, 0, i), 10 + i);
  }

  private static void lay() {
    in("Promise 32");
    sentence("A SLOT holds: thing 0 nothing, 1 STALL k, 2 SHEET k, 3 the number k: what it held (0 .. 3).");
    for (int slot = 0; slot < 5; slot++) {
      OneCloth x = busy();
      x.lay(slot, 0, 0);
      int held = 0;
      for (int thing : new int[] {0, 1, 2, 3, 1, 3, 2, 1, 0, 3, 3, 2, 2, 0, 2, 0, 1, 1, 0}) {
        due(x.lay(slot, thing, 1), held);
        due(x.ask(slot, 0), thing == 0 ? NOTHING : thing == 1 ? 26 : KIND);
        due(x.item(slot, 0), thing == 0 ? NOTHING : thing == 2 ? 70000 : KIND);
        due(x.rest(slot, 5), thing == 0 ? NOTHING : thing == 3 ? 1 : KIND);
        held = thing;
      }
      // Any number, and any k for nothing.
      for (int v : new int[] {LEAST, MOST, -1, 0, NONE, BAD}) {
        x.lay(slot, 3, v);
        due(x.rest(slot, 1000003), v % 1000003);
      }
      for (int v : new int[] {LEAST, MOST, -1, 99}) x.lay(slot, 0, v);
      due(x.lay(slot, 0, LEAST), 0);
    }
    OneCloth f = full();
    due(f.lay(0, 1, 8), 0);
    due(f.ask(0, 0), 91);
    due(busy().lay(4, 2, 3), 0);

    sentence("BAD: slot, thing, k;");
    for (int thing = 0; thing < 4; thing++) {
      int t = thing;
      for (int v : outside(0, 4)) refused(Sentences::busy, BAD, b -> b.lay(v, t, 0));
      for (int v : outside(0, 4)) refused(Sentences::busy, BAD, b -> b.lay(v, t, 2));
    }
    for (int v : outside(0, 3)) refused(Sentences::busy, BAD, b -> b.lay(0, v, 0));
    for (int slot = 0; slot < 5; slot++) {
      int s = slot;
      for (int v : outside(0, 4)) refused(Sentences::busy, BAD, b -> b.lay(s, 1, v));
      for (int v : outside(0, 3)) refused(Sentences::busy, BAD, b -> b.lay(s, 2, v));
      refused(BoundaryTests::gone, BAD, b -> b.lay(s, 1, 4));
    }

    sentence("NOTHING: that SHEET is MISSING.");
    for (int slot = 0; slot < 5; slot++) {
      int s = slot;
      refused(Sentences::busy, NOTHING, b -> b.lay(s, 2, 2));
    }
  }

  private static void ask() {
    in("Promise 33");
    sentence("WORTH of the STALL in a SLOT, taken for one of a KIND (0 .. 5).");
    int[] worth = {40, 46, 59, 92, 51, 2};
    String[] kindsOf = {"0", "01", "02", "013", "024", "05"};
    for (int kind = 0; kind < 6; kind++) {
      OneCloth x = one(new OneCloth(), kind, 0, 40);
      x.lay(4, 1, 0);
      for (int as = 0; as < 6; as++) due(x.ask(4, as), kindsOf[kind].indexOf('0' + as) >= 0 ? worth[kind] : KIND);
    }

    sentence("BAD; NOTHING; KIND: it is no STALL, or not of that KIND, nor of one under it.");
    for (int v : outside(0, 4)) refused(Sentences::busy, BAD, b -> b.ask(v, 0));
    for (int slot = 0; slot < 5; slot++) {
      int s = slot;
      for (int v : outside(0, 5)) refused(Sentences::busy, BAD, b -> b.ask(s, v));
    }
    for (int kind = 0; kind < 6; kind++) {
      int k = kind;
      refused(Sentences::busy, NOTHING, b -> b.ask(4, k));
      for (int slot = 1; slot < 4; slot++) {
        int s = slot;
        refused(Sentences::busy, KIND, b -> b.ask(s, k));
      }
    }
    for (int kind = 2; kind < 6; kind++) {
      int k = kind;
      refused(Sentences::busy, KIND, b -> b.ask(0, k));
    }
  }

  private static void item() {
    in("Promise 34");
    sentence("A place of the SHEET in a SLOT.");
    OneCloth x = new OneCloth();
    x.sheet(0, 0, 24);
    x.sheet(1, 1, 24);
    x.mark(0, 0, -32768);
    x.mark(0, 23, 32767);
    x.mark(1, 0, -99999);
    x.mark(1, 23, 99999);
    x.lay(0, 2, 0);
    x.lay(4, 2, 1);
    due(x.item(0, 0), -32768);
    due(x.item(0, 1), 0);
    due(x.item(0, 23), 32767);
    due(x.item(4, 0), -99999);
    due(x.item(4, 23), 99999);

    sentence("BAD: slot;");
    for (int v : outside(0, 4)) for (int place : new int[] {-1, 0}) refused(Sentences::busy, BAD, b -> b.item(v, place));

    sentence("NOTHING;");
    for (int place : new int[] {-1, 0, 24}) refused(Sentences::busy, NOTHING, b -> b.item(4, place));

    sentence("KIND: it is no SHEET;");
    for (int place : new int[] {-1, 0, 24}) {
      refused(Sentences::busy, KIND, b -> b.item(0, place));
      refused(Sentences::busy, KIND, b -> b.item(2, place));
    }

    sentence("INDEX;");
    for (int v : outside(0, 5)) refused(Sentences::busy, INDEX, b -> b.item(1, v));
    for (int v : outside(0, 3)) refused(Sentences::busy, INDEX, b -> b.item(3, v));
    due(x.item(0, 24), INDEX);
    x.sheet(2, 0, 0);
    x.lay(1, 2, 2);
    due(x.item(1, 0), INDEX);
    // A shorter SHEET in a SLOT that held a longer one.
    x.sheet(2, 0, 1);
    x.lay(0, 2, 2);
    due(x.item(0, 0), 0);
    due(x.item(0, 1), INDEX);

    sentence("KIND: NO NUMBER.");
    refused(Sentences::busy, KIND, b -> b.item(3, 2));
    due(busy().item(3, 3), 70003);
  }

  private static void rest() {
    in("Promise 35");
    sentence("The rest of the number in a SLOT by n.");
    OneCloth x = new OneCloth();
    int[][] rests = {{17, 5, 2}, {-17, 5, -2}, {17, -5, 2}, {-17, -5, -2}, {0, 7, 0}, {7, 1, 0}, {7, -1, 0}, {7, 7, 0}, {7, 8, 7},
      {LEAST, -1, 0}, {LEAST, LEAST, 0}, {MOST, LEAST, MOST}, {LEAST, MOST, -1}, {LEAST, 10, -8}, {MOST, 10, 7}};
    for (int[] v : rests) {
      x.lay(0, 3, v[0]);
      due(x.rest(0, v[1]), v[2]);
    }
    x.lay(4, 3, 9);
    due(x.rest(4, 5), 4);

    sentence("BAD: slot;");
    for (int v : outside(0, 4)) for (int n : new int[] {0, 1}) refused(Sentences::busy, BAD, b -> b.rest(v, n));

    sentence("NOTHING;");
    for (int n : new int[] {0, 1}) refused(Sentences::busy, NOTHING, b -> b.rest(4, n));

    sentence("KIND: it is no number;");
    for (int slot : new int[] {0, 1, 3}) for (int n : new int[] {0, 1}) refused(Sentences::busy, KIND, b -> b.rest(slot, n));

    sentence("NO: n is 0.");
    refused(Sentences::busy, NO, b -> b.rest(2, 0));
  }

  // ---------------------------------------------------------------- rows, images

  private static void tell() {
    in("Promise 36");
    sentence("One more number waits: how many.");
    OneCloth x = new OneCloth();
    for (int i = 1; i <= 60; i++) {
      due(x.tell(i % 2 == 0 ? LEAST : MOST), i);
      due(x.count(4), i);
    }

    sentence("FULL: 60 wait.");
    refused(Sentences::full, FULL, f -> f.tell(0));
    // All 60 are there: thirty HOURS of nothing lost, and FIRST 0.
    OneCloth y = still();
    y.keep();
    for (int i = 0; i < 60; i++) y.tell(0);
    due(y.tell(0), FULL);
    due(y.check(30), 0);
    due(y.tell(0), 1);
  }

  private static void wait(OneCloth x, int... numbers) {
    for (int v : numbers) x.tell(v);
  }

  /** THE IMAGE is at HOUR 3, with SPOILT 22 and FIRST 2; what is now is otherwise. */
  private static OneCloth kept() {
    OneCloth x = one(still(), 0, 11, 0);
    x.hours(3);
    x.set(0, 2, 80);
    x.rule(0, 2);
    x.keep();
    x.hours(5);
    x.rule(0, 7);
    x.rule(3, 2);
    return x;
  }

  private static void check() {
    in("Promise 37");
    int[] told = {22, 2, 30, 2, 39, 2};
    sentence("The numbers that wait (none do then, whatever is answered)");
    OneCloth w = kept();
    wait(w, told);
    due(w.check(3), 0);
    due(w.count(4), 0);
    wait(w, 1, 2, 3);
    due(w.check(3), 1);
    due(w.count(4), 0);
    wait(w, told);
    due(w.check(0), BAD);
    due(w.count(4), 0);
    due(w.check(3), 1);
    OneCloth no = new OneCloth();
    wait(no, told);
    due(no.check(3), NO);
    due(no.count(4), 0);

    sentence("are THE HOURS TOLD of n (1 .. 30; fewer, if THE HOUR would be above 9999), two by two: 0;");
    OneCloth x = kept();
    wait(x, 22, 2);
    due(x.check(1), 0);
    wait(x, told);
    due(x.check(3), 0);
    due(x.count(1), 8);
    due(x.cloth(0), 7);
    // Thirty of them, from THE IMAGE of busy, told from what comes when all is as it is.
    OneCloth b = busy();
    b.check(1);
    b.back();
    int[] rows = new int[60];
    for (int i = 0; i < 30; i++) {
      rows[2 * i] = b.behind(i + 1, 0);
      rows[2 * i + 1] = b.behind(i + 1, 2);
    }
    wait(b, rows);
    due(b.check(30), 0);
    // Three HOURS are left, one, none.
    for (int left : new int[] {3, 1, 0}) {
      OneCloth y = at(9999 - left);
      y.rule(0, 4);
      y.keep();
      for (int i = 0; i < left; i++) wait(y, 0, 4);
      due(y.check(30), 0);
      for (int i = 0; i < left; i++) wait(y, 0, 4);
      due(y.check(left + 1), 0);
      for (int i = 0; i < left; i++) wait(y, 0, 4);
      wait(y, 0);
      due(y.check(30), 1 + 2 * left);
      for (int i = 0; i < left; i++) wait(y, 0, 4);
      if (left > 0) due(y.check(left), 0);
      due(y.check(30), left == 0 ? 0 : 1);
    }
    // It is THE IMAGE's HOUR that counts, wherever THE HOUR is by now.
    OneCloth on = at(9996);
    on.rule(0, 4);
    on.keep();
    on.hours(3);
    due(on.count(1), 9999);
    wait(on, 0, 4, 0, 4, 0, 4);
    due(on.check(30), 0);
    OneCloth far = still();
    far.keep();
    for (int i = 0; i < 100; i++) far.hours(100);
    due(far.count(1), 9999);
    for (int i = 0; i < 60; i++) far.tell(0);
    due(far.check(30), 0);

    sentence("else 1 and how many stand right ahead of the first that is not (or is missing, or one too many).");
    OneCloth z = kept();
    for (int i = 0; i < 6; i++) {
      // Not: one more or one less than due, others behind it right.
      for (int by : new int[] {-1, 1}) {
        for (int k = 0; k < 6; k++) z.tell(k == i ? told[k] + by : told[k]);
        due(z.check(3), 1 + i);
      }
      // Missing.
      for (int k = 0; k < i; k++) z.tell(told[k]);
      due(z.check(3), 1 + i);
    }
    // One too many, two too many; all that is told, of fewer HOURS.
    wait(z, told);
    z.tell(46);
    due(z.check(3), 7);
    wait(z, told);
    wait(z, 47, 2);
    due(z.check(3), 7);
    wait(z, told);
    due(z.check(2), 5);
    wait(z, told);
    due(z.check(1), 3);
    wait(z, told);
    due(z.check(4), 7);
    due(z.check(1), 1);
    OneCloth sixty = still();
    sixty.keep();
    for (int i = 0; i < 60; i++) sixty.tell(i < 59 ? 0 : 1);
    due(sixty.check(30), 60);
    for (int i = 0; i < 60; i++) sixty.tell(0);
    due(sixty.check(29), 59);
    for (int i = 0; i < 59; i++) sixty.tell(0);
    due(sixty.check(30), 60);

    sentence("BAD; NO: there is no IMAGE.");
    for (int v : outside(1, 30)) {
      OneCloth bad = busy();
      due(bad.check(v), BAD);
      OneCloth good = busy();
      good.check(1);
      same(bad, good);
      due(new OneCloth().check(v), BAD);
    }
    for (int n : new int[] {1, 30}) refused(OneCloth::new, NO, o -> o.check(n));
  }

  private static void keep() {
    in("Promise 38");
    sentence("AN IMAGE is kept: how many STALLS.");
    OneCloth x = new OneCloth();
    due(x.keep(), 0);
    for (int i = 1; i <= 9; i++) {
      x.stall(0, i, i);
      due(x.keep(), i);
    }
    // The last one counts, and what comes later does not reach it.
    x.set(8, 2, 5);
    x.hours(3);
    due(x.back(), 9);
    due(x.told(8, 2), 100);
    due(x.count(1), 0);
    x.set(8, 2, 7);
    due(x.keep(), 9);
    x.set(8, 2, 8);
    due(x.back(), 9);
    due(x.told(8, 2), 7);
    due(x.cloth(2), 10);
  }

  private static void back() {
    in("Promise 39");
    sentence("All is as THE IMAGE: how many STALLS.");
    OneCloth x = new OneCloth();
    x.keep();
    x.deal(9);
    due(x.back(), 0);
    due(x.count(0), 0);
    due(x.count(6), 1);
    x.deal(9);
    due(x.keep(), 9);
    due(x.back(), 9);
    // What is done behind it does not reach THE IMAGE.
    for (int again = 0; again < 3; again++) {
      x.set(0, 2, again);
      x.turns(1, 5);
      x.rule(1, 6);
      x.hours(50);
      due(x.back(), 9);
      due(x.told(0, 2), 100);
      due(x.cloth(1), 3);
      due(x.count(1), 0);
    }
    // From the last HOUR back to the first.
    OneCloth y = still();
    y.keep();
    for (int i = 0; i < 100; i++) y.hours(100);
    due(y.hours(1), 0);
    y.back();
    due(y.count(1), 0);
    y.hours(1);
    due(y.count(1), 1);

    sentence("NO: there is none.");
    refused(OneCloth::new, NO, OneCloth::back);
    refused(Sentences::full, NO, OneCloth::back);
  }

  private static void count() {
    in("Promise 40");
    sentence("0 how many STALLS, 1 THE HOUR, 2 those in SHADE, 3 TEXTS, 4 numbers that wait, 5 bytes of THE TAPE, 6 z.");
    // At HOUR 0 SHADE is PLACE 0 alone.
    int[] most = {9, 0, 1, 14, 60, 96, 1};
    OneCloth f = full();
    for (int what = 0; what < 7; what++) due(f.count(what), most[what]);
    f.rule(0, 4);
    due(f.count(2), 3);
    f.rule(1, 6);
    due(f.count(2), 6);
    f.seed(LEAST);
    due(f.count(6), LEAST);
    due(at(9999).count(1), 9999);
    OneCloth g = gone();
    int[] kept = {4, 3, -1, 2, 3, 12, -1};
    for (int what = 0; what < 6; what++) if (what != 2) due(g.count(what), kept[what]);

    sentence("BAD.");
    for (int v : outside(0, 6)) refused(Sentences::busy, BAD, b -> b.count(v));
  }
}
