import java.io.IOException;

/** The sentences of 'Terms', and of how long an object is used: for each a test of its own, at its boundaries. */
public final class TermTests extends Sentences {

  public static void main(String[] args) throws IOException {
    read(args);
    use();
    refusals();
    placesAndCloth();
    sunAndShade();
    stalls();
    spoils();
    worth();
    hauling();
    losses();
    wind();
    draws();
    thought();
    best();
    wider();
    shadedAndWithout();
    whoseHand();
    textsAndTape();
    grammar();
    names();
    words();
    faults();
    values();
    sheetsAndSlots();
    findings();
    images();
    end("Use", "Terms");
  }

  // ---------------------------------------------------------------- how long an object is used

  private static void use() {
    in("Use");
    sentence("An object is used for at most 512 calls after it has been made; what later calls answer is free.");
    OneCloth x = still();
    for (int call = 2; call < 512; call++) x.hours(1);
    due(x.count(1), 510);
    // The dearest calls, all the way.
    OneCloth y = new OneCloth();
    y.deal(9);
    y.rule(3, 1);
    text(y, "melt (h*g+p)/(g+1)");
    int want = y.best(5, 1);
    for (int call = 9; call < 512; call++) y.best(5, 0);
    due(y.best(5, 1), want);
  }

  // ---------------------------------------------------------------- ahead of section 1

  private static void refusals() {
    in("Terms 0");
    sentence("All numbers are whole; / cuts towards 0.");
    due(at(0, 4, 1).cloth(5), 2);
    due(at(2, 4, 1).cloth(5), 3);
    due(at(4, 4, 1).cloth(5), 4);
    gives("fee (0-7)/2", -3);
    gives("fee 7/(0-2)", -3);
    gives("fee (0-7)/(0-2)", 3);
    gives("fee (0-1)/2", 0);
    OneCloth idle = at(5);
    idle.stall(5, 11, 0);
    due(idle.told(0, 4), 4);

    sentence("A call that is refused answers one of BAD, NO, FULL, or a FINDING, of several the one that stands first with it,");
    firstOfSeveral();

    sentence("and changes nothing (but the tape and the numbers that wait, where told).");
    refused(Sentences::full, FULL, x -> x.stall(0, 0, 0));
    refused(Sentences::full, FULL, x -> x.feed(1, 2, 3));
    refused(Sentences::full, FULL, x -> x.tell(1));
    refused(Sentences::full, NO, OneCloth::back);
    refused(Sentences::busy, BAD, x -> x.trim(13));
    refused(Sentences::busy, NO, x -> x.rest(2, 0));
    // Where told: THE TAPE is used up by a FAULT and by FULL, and the numbers that wait by BAD and NO.
    OneCloth f = full();
    due(f.text(), FULL);
    due(f.count(5), 0);
    due(f.check(1), NO);
    due(f.count(4), 0);
    OneCloth b = busy();
    b.trim(5);
    due(b.text(), 3);
    OneCloth c = busy();
    c.trim(4);
    due(c.text(), -104);
    OneCloth d = busy();
    d.trim(0);
    same(c, d);
    OneCloth e = busy();
    due(e.check(0), BAD);
    OneCloth g = busy();
    due(g.check(1), 3);
    same(e, g);

    sentence("NONE: there is none.");
    due(at(0, 0, 1).cloth(5), NONE);
    due(new OneCloth().without(1, 0), NONE);
    due(new OneCloth().why(0), NONE);
    OneCloth sun = still();
    sun.stall(0, 11, 0);
    due(sun.wider(3, 1), NONE);
    sun.sheet(0, 0, 0);
    due(sun.reads(0), NONE);

    sentence("Sets of STALLS are told as bits (bit k for number k).");
    OneCloth s = at(5);
    due(s.cloth(6), 0);
    for (int i = 0; i < 9; i++) s.stall(0, 11, 0);
    due(s.cloth(6), 0);
    for (int i = 0; i < 9; i++) {
      s.set(i, 1, 0);
      due(s.cloth(6), 1 << i);
      s.set(i, 1, 11);
    }
    for (int i = 0; i < 9; i++) s.set(i, 1, i % 3);
    due(s.cloth(6), 511);
  }

  private static void firstOfSeveral() {
    due(full().stall(6, 0, 0), BAD);
    due(new OneCloth().without(0, 0), BAD);
    due(new OneCloth().without(1, 2), BAD);
    due(new OneCloth().whose(0, 61, 0), BAD);
    due(new OneCloth().whose(0, 0, 2), BAD);
    OneCloth f = full();
    f.trim(4);
    due(f.text(), -104);
    OneCloth x = busy();
    due(x.sheet(4, 0, -1), BAD);
    due(x.sheet(0, 2, -1), BAD);
    due(x.mark(2, -1, 0), NOTHING);
    due(x.mark(0, 6, NONE), INDEX);
    due(x.mark(1, 4, 100000), INDEX);
    due(x.copy(2, 0, 4, 0, 1), BAD);
    due(x.copy(4, 0, 2, 0, 1), BAD);
    due(x.copy(2, -1, 0, 0, 1), NOTHING);
    due(x.copy(0, -1, 2, 0, 1), NOTHING);
    due(x.copy(0, -1, 1, 0, 1), KIND);
    due(x.lay(5, 2, 2), BAD);
    due(x.ask(4, 6), BAD);
    due(x.ask(2, 6), BAD);
    due(x.item(4, -1), NOTHING);
    due(x.item(0, -1), KIND);
    due(x.rest(5, 0), BAD);
    due(x.rest(4, 0), NOTHING);
    due(x.rest(0, 0), KIND);
    due(new OneCloth().check(0), BAD);
  }

  // ---------------------------------------------------------------- section 1

  private static void placesAndCloth() {
    in("Terms 1");
    sentence("PLACES are 0 .. 11.");
    OneCloth x = new OneCloth();
    due(x.stall(0, 0, 0), 0);
    due(x.stall(0, 11, 0), 1);
    due(x.stall(0, -1, 0), BAD);
    due(x.stall(0, 12, 0), BAD);

    sentence("THE CLOTH: WIDTH 1 .. 6 (3 at first), FIRST 0 .. 12 less WIDTH (0 at first).");
    OneCloth c = new OneCloth();
    due(c.cloth(1), 3);
    due(c.cloth(0), 0);
    for (int width = 1; width <= 6; width++) {
      c.rule(1, width);
      due(c.cloth(1), width);
      c.rule(0, 0);
      due(c.rule(0, 12 - width), 0);
      due(c.rule(0, 13 - width), BAD);
      due(c.rule(0, -1), BAD);
      due(c.cloth(0), 12 - width);
    }
    due(c.rule(1, 0), BAD);
    due(c.rule(1, 7), BAD);
    due(c.cloth(1), 6);

    sentence("THE HOUR is 0 at first, 9999 at most; t is its rest by 10.");
    due(new OneCloth().count(1), 0);
    int[] hours = {9, 10, 11, 99, 100, 9990, 9998, 9999};
    int[] heat = {25, 20, 25, 25, 20, 20, 30, 25};
    for (int i = 0; i < hours.length; i++) {
      OneCloth h = at(hours[i]);
      due(h.count(1), hours[i]);
      due(h.cloth(4), heat[i]);
    }
    OneCloth last = at(9999);
    last.hours(100);
    due(last.count(1), 9999);
  }

  private static void sunAndShade() {
    sentence("SHADE (of FIRST): the PLACES FIRST and o .. FIRST and WIDTH and o, less 1 (those of them that there are), o being (t less 5) / 2 (cut towards 0).");
    for (int t = 0; t < 10; t++) {
      OneCloth x = at(t);
      x.stall(0, 0, 0);
      for (int width = 1; width <= 6; width++) {
        x.rule(1, width);
        int[] firsts = {0, 12 - width};
        for (int first : firsts) {
          x.rule(0, first);
          int leastShaded = NONE;
          for (int place = 11; place >= 0; place--) {
            x.set(0, 1, place);
            boolean shaded = place >= first + SLANT[t] && place <= first + width + SLANT[t] - 1;
            due(x.told(0, 5), shaded ? 1 : 0);
            if (shaded) leastShaded = place;
          }
          due(x.cloth(5), leastShaded);
        }
      }
    }

    sentence("HEAT: 45, less 5 times by how much t and 5 differ.");
    for (int t = 0; t < 10; t++) due(at(t).cloth(4), 5 * LOSS[t]);

    sentence("GUST is 0 .. 100 (10 at first), MODE 0 (at first) .. 2.");
    OneCloth g = new OneCloth();
    due(g.rule(2, 0), 10);
    due(g.rule(2, -1), BAD);
    due(g.rule(2, 100), 0);
    due(g.rule(2, 101), BAD);
    due(g.cloth(2), 100);
    due(g.rule(3, 2), 0);
    due(g.rule(3, 3), BAD);
    due(g.rule(3, -1), BAD);
    due(g.cloth(3), 2);

    sentence("COINS, SPOILT, TORN are 0 at first.");
    for (int what = 0; what < 3; what++) due(new OneCloth().book(what), 0);
  }

  private static void stalls() {
    sentence("STALLS, 9 at most, numbered from 0: PLACE, GOODS 0 .. 999 (100 at first), PAY 0 .. 99,");
    OneCloth x = new OneCloth();
    for (int i = 0; i < 9; i++) due(x.stall(0, i, i), i);
    due(x.stall(0, 0, 0), FULL);
    due(x.deal(1), 0);
    due(x.count(0), 9);
    for (int i = 0; i < 9; i++) {
      due(x.told(i, 1), i);
      due(x.told(i, 2), 100);
      due(x.told(i, 3), i);
    }
    due(x.told(9, 0), BAD);
    due(x.set(8, 2, 999), 100);
    due(x.set(8, 2, 1000), BAD);
    due(x.set(8, 2, 0), 999);
    due(x.set(8, 2, -1), BAD);
    due(x.set(8, 3, 99), 8);
    due(x.set(8, 3, 100), BAD);
    due(x.set(8, 3, 0), 99);
    due(x.set(8, 3, -1), BAD);

    sentence("and of KINDS: 0 STALL; 1 FISH, 2 BLIND, 5 IDLE, under STALL; 3 BUTTER, under FISH; 4 HOLY, under BLIND (all are STALLS).");
    String[] kindsOf = {"0", "01", "02", "013", "024", "05"};
    OneCloth k = new OneCloth();
    for (int kind = 0; kind < 6; kind++) {
      k.stall(kind, 0, 50 + kind);
      for (int as = 0; as < 6; as++) due(k.as(kind, as), kindsOf[kind].indexOf('0' + as) >= 0 ? 50 + kind : KIND);
    }
  }

  /** What a STALL of a KIND with so many GOODS loses at HOUR 5, in the sun or in SHADE. */
  private static int loss(int kind, int goods, boolean inSun, String melt) {
    OneCloth x = at(5);
    x.stall(kind, inSun ? 11 : 0, 60);
    x.set(0, 2, goods);
    if (melt != null) due(text(x, melt), 0);
    int loss = x.told(0, 4);
    due(x.hours(1), loss);
    due(x.told(0, 2), goods - loss);
    return loss;
  }

  private static void sunLoss(int kind, int goods, int want) { due(loss(kind, goods, true, null), want); }

  private static void meltLoss(String melt, int kind, int goods, int want) { due(loss(kind, goods, true, melt), want); }

  private static void spoils() {
    sentence("SPOILS (of its GOODS, in an HOUR; GOODS, if what follows is more):");
    int[] inSun = {9, 18, 0, 23, 0, 4};
    for (int kind = 0; kind < 6; kind++) {
      sunLoss(kind, 0, 0);
      sunLoss(kind, inSun[kind] + 1, inSun[kind]);
      sunLoss(kind, inSun[kind], inSun[kind]);
      if (inSun[kind] > 0) sunLoss(kind, inSun[kind] - 1, inSun[kind] - 1);
      sunLoss(kind, 1, Math.min(1, inSun[kind]));
      sunLoss(kind, 999, inSun[kind]);
    }
    for (int goods = 0; goods < 5; goods++) due(loss(4, goods, false, null), Math.min(2, goods));

    sentence("in the sun: STALL: what melt gives, held within 0 .. GOODS (without a TEXT: HEAT / 5).");
    meltLoss("melt 0-1", 0, 100, 0);
    meltLoss("melt 0", 0, 100, 0);
    meltLoss("melt 1", 0, 100, 1);
    meltLoss("melt g-1", 0, 100, 99);
    meltLoss("melt g", 0, 100, 100);
    meltLoss("melt g+1", 0, 100, 100);
    meltLoss("melt g+1", 0, 0, 0);
    meltLoss("melt 9999*9999*99", 0, 100, 100);
    meltLoss("melt 0-9999*9999*9", 0, 100, 0);
    // It is held before FISH, BUTTER and IDLE do with it what they do.
    meltLoss("melt 0-9", 1, 100, 0);
    meltLoss("melt 0-9", 3, 100, 5);
    meltLoss("melt 0-9", 5, 100, 0);
    meltLoss("melt g*5", 5, 7, 3);
    meltLoss("melt 9999*9999*12", 1, 100, 100);
    for (int t = 0; t < 10; t++) {
      OneCloth x = at(t);
      x.stall(0, 11, 0);
      x.rule(0, 0);
      due(x.told(0, 4), LOSS[t]);
    }
    // HEAT / 5 is not held within GOODS first: half of 9 is 4, and so are the GOODS.
    sunLoss(5, 4, 4);

    sentence("FISH: twice as STALL.");
    meltLoss("melt 50", 1, 100, 100);
    meltLoss("melt 49", 1, 100, 98);
    meltLoss("melt 51", 1, 100, 100);

    sentence("BUTTER: as FISH, and 5.");
    meltLoss("melt 0", 3, 100, 5);
    meltLoss("melt 47", 3, 100, 99);
    meltLoss("melt 48", 3, 100, 100);
    meltLoss("melt 0", 3, 4, 4);

    sentence("BLIND: 0.");
    meltLoss("melt g", 2, 999, 0);
    sunLoss(2, 999, 0);

    sentence("HOLY: as BLIND.");
    meltLoss("melt g", 4, 999, 0);
    sunLoss(4, 999, 0);

    sentence("IDLE: half (cut) of as STALL.");
    meltLoss("melt 0", 5, 100, 0);
    meltLoss("melt 1", 5, 100, 0);
    meltLoss("melt 2", 5, 100, 1);
    meltLoss("melt 3", 5, 100, 1);
    meltLoss("melt g", 5, 1, 0);
    sunLoss(5, 100, 4);

    sentence("In SHADE: 0; HOLY: 2.");
    for (int kind = 0; kind < 6; kind++) {
      due(loss(kind, 999, false, null), kind == 4 ? 2 : 0);
      due(loss(kind, 999, false, "melt g"), kind == 4 ? 2 : 0);
    }
  }

  private static void worth() {
    int[] kinds = {0, 1, 3, 2, 4, 5};
    String[] told = {"WORTH: STALL: PAY.", "FISH: as STALL, and 6.", "BUTTER: twice as FISH.", "BLIND: 99 less PAY.", "HOLY: as BLIND, less 8.", "IDLE: 2."};
    int[] ofLeast = {0, 6, 12, 99, 91, 2};
    int[] ofMost = {99, 105, 210, 0, -8, 2};
    for (int i = 0; i < 6; i++) {
      sentence(told[i]);
      OneCloth x = new OneCloth();
      x.stall(kinds[i], 0, 0);
      due(x.told(0, 6), ofLeast[i]);
      x.set(0, 3, 99);
      due(x.told(0, 6), ofMost[i]);
    }
    sentence("(A KIND that is not named does as the one above it.)");
    for (int kind : new int[] {1, 2, 3, 5}) due(loss(kind, 50, false, null), 0);
    due(loss(4, 50, true, null), loss(2, 50, true, null));
  }

  // ---------------------------------------------------------------- section 2

  /** One HOUR from such a cloth; what FIRST is then. */
  private static int hauled(OneCloth x, int mode) {
    x.rule(3, mode);
    x.hours(1);
    return x.cloth(0);
  }

  private static OneCloth one(OneCloth x, int kind, int place, int pay) {
    x.stall(kind, place, pay);
    return x;
  }

  private static void hauling() {
    in("Terms 2");
    sentence("AN HOUR: (1) THE CLOTH is hauled one PLACE up, one down, or not (FIRST stays within its bounds: what would go beyond does not go):");
    // By loss: at HOUR 7 PLACE 0 lies below the SHADE of FIRST 0; at HOUR 0 PLACE 11 lies above that of the last FIRST.
    due(hauled(one(at(7, 0, 3), 0, 0, 0), 1), 0);
    due(hauled(one(at(7, 1, 3), 0, 0, 0), 1), 0);
    due(hauled(one(at(7, 2, 3), 0, 0, 0), 1), 1);
    for (int width = 1; width <= 6; width++) {
      due(hauled(one(at(0, 12 - width, width), 0, 11, 0), 1), 12 - width);
      due(hauled(one(at(0, 11 - width, width), 0, 11, 0), 1), 12 - width);
      due(hauled(one(at(0, 10 - width, width), 0, 11, 0), 1), 11 - width);
    }
    // By PAY: a haul that does not go shades nobody more, so the other way is taken.
    due(hauled(one(one(at(7, 0, 3), 2, 0, 50), 2, 4, 10), 2), 1);
    due(hauled(one(one(at(0, 9, 3), 2, 10, 50), 2, 6, 10), 2), 8);
    due(hauled(one(at(7, 0, 3), 2, 0, 50), 2), 0);
    due(hauled(one(at(0, 9, 3), 2, 10, 50), 2), 9);
    // Of the best hauling too.
    OneCloth low = one(at(7, 0, 3), 0, 0, 0);
    due(low.best(1, 0), 0);
    due(low.best(1, 1), 7);
    OneCloth high = one(at(0, 9, 3), 0, 10, 0);
    due(high.best(1, 0), 0);
    due(high.best(1, 1), 4);

    sentence("by MODE 0: not;");
    due(hauled(one(at(4, 5, 3), 1, 0, 99), 0), 5);
    due(hauled(one(at(4, 5, 3), 1, 8, 99), 0), 5);

    sentence("1: of the STALLS that are not in SHADE the one that SPOILS most (of several the least; none if nothing does):");
    // HOLY in SHADE loses 2, a STALL in the sun 1: that one counts.
    OneCloth holy = one(one(at(4, 5, 3), 4, 5, 0), 0, 1, 0);
    holy.set(1, 2, 1);
    due(hauled(holy, 1), 4);
    due(hauled(one(at(4, 5, 3), 4, 5, 0), 1), 5);
    // As much at both ends: the least number; one more: the other.
    due(hauled(one(one(at(4, 5, 3), 0, 0, 0), 0, 11, 0), 1), 4);
    due(hauled(one(one(at(4, 5, 3), 0, 11, 0), 0, 0, 0), 1), 6);
    OneCloth more = one(one(at(4, 5, 3), 0, 11, 0), 0, 0, 0);
    more.set(0, 2, 7);
    due(hauled(more, 1), 4);
    // None: no STALL, none in the sun, none with GOODS, none that loses.
    due(hauled(at(4, 5, 3), 1), 5);
    due(hauled(one(at(4, 5, 3), 0, 5, 0), 1), 5);
    OneCloth empty = one(at(4, 5, 3), 0, 0, 0);
    empty.set(0, 2, 0);
    due(hauled(empty, 1), 5);
    due(hauled(one(one(at(4, 5, 3), 2, 0, 0), 4, 11, 0), 1), 5);
    // Nine are looked at.
    OneCloth nine = at(4, 5, 3);
    for (int i = 0; i < 9; i++) nine.stall(i == 8 ? 1 : 0, i == 8 ? 11 : 0, 0);
    due(hauled(nine, 1), 6);

    sentence("down, if its PLACE is less than FIRST and o, else up;");
    for (int t = 0; t < 10; t++) {
      due(hauled(one(at(t, 4, 1), 0, 4 + SLANT[t] - 1, 0), 1), 3);
      due(hauled(one(at(t, 4, 1), 0, 4 + SLANT[t] + 1, 0), 1), 5);
      due(hauled(one(at(t, 4, 3), 0, 4 + SLANT[t] + 3, 0), 1), 5);
    }

    sentence("2: as of these three (not, down, up) PAY of all STALLS that would be in SHADE is greatest together (of several the one named first).");
    due(hauled(at(4, 5, 1), 2), 5);
    // As much: not ahead of down, down ahead of up.
    due(hauled(one(one(at(4, 5, 1), 2, 5, 7), 2, 4, 7), 2), 5);
    due(hauled(one(one(at(4, 5, 1), 2, 5, 7), 2, 6, 7), 2), 5);
    due(hauled(one(one(at(4, 5, 1), 2, 4, 7), 2, 6, 7), 2), 4);
    due(hauled(one(one(at(4, 5, 1), 2, 6, 7), 2, 4, 7), 2), 4);
    due(hauled(one(one(at(4, 5, 1), 2, 5, 7), 2, 4, 8), 2), 4);
    due(hauled(one(one(at(4, 5, 1), 2, 4, 7), 2, 6, 8), 2), 6);
    // Together: 4 and 4 are more than 7. PAY of 0 draws nothing.
    due(hauled(one(one(one(at(4, 5, 1), 2, 5, 7), 2, 6, 4), 2, 6, 4), 2), 6);
    due(hauled(one(at(4, 5, 1), 2, 6, 0), 2), 5);
    // One PLACE, not two.
    due(hauled(one(at(4, 5, 1), 2, 7, 99), 2), 5);
    // A STALL that is gone draws nothing; of nine the last one does.
    OneCloth gone = at(4, 5, 1);
    gone.keep();
    gone.stall(2, 4, 99);
    gone.back();
    due(hauled(gone, 2), 5);
    OneCloth full = at(4, 5, 1);
    for (int i = 0; i < 9; i++) full.stall(2, 6, i == 8 ? 1 : 0);
    due(hauled(full, 2), 6);
  }

  private static void losses() {
    sentence("(2) Of each STALL, by numbers: what it SPOILS is gone (SPOILT is more by it); if it is in SHADE, COINS are PAY more.");
    // The SHADE is that of THE CLOTH as it has been hauled.
    OneCloth x = one(at(4, 0, 3), 0, 3, 5);
    x.rule(3, 1);
    due(x.hours(1), 0);
    due(x.book(1), 5);
    // GOODS end at 0; who has none left pays all the same.
    OneCloth y = one(one(at(4, 0, 3), 0, 11, 3), 0, 0, 99);
    y.set(0, 2, 11);
    y.set(1, 2, 0);
    due(y.hours(1), 8);
    due(y.hours(1), 3);
    due(y.hours(1), 0);
    due(y.told(0, 2), 0);
    due(y.book(0), 11);
    due(y.book(1), 3 * 99);
    // HOLY in SHADE both pays and loses.
    OneCloth h = one(at(4, 0, 3), 4, 0, 9);
    h.set(0, 2, 3);
    due(h.hours(1), 2);
    due(h.hours(1), 1);
    due(h.book(1), 18);
    due(h.book(3), 0);
  }

  private static OneCloth windy(int gust, int seed, int first, int width) {
    OneCloth x = new OneCloth();
    x.rule(1, width);
    x.rule(0, first);
    x.rule(2, gust);
    x.seed(seed);
    x.hours(1);
    return x;
  }

  private static void wind() {
    sentence("(3) A draw; if its rest by 100 is below GUST: one more draw,");
    for (int rest : new int[] {0, 1, 9, 10, 50, 98, 99}) {
      int seed = seedOf(rest, 2);
      OneCloth no = windy(rest, seed, 5, 3);
      due(no.count(6), next(seed));
      due(no.cloth(0), 5);
      due(no.book(2), 0);
      OneCloth yes = windy(rest + 1, seed, 5, 3);
      due(yes.count(6), next(next(seed)));
      due(yes.cloth(0), 6);
      due(yes.book(2), 1);
    }

    sentence("its rest by 3, less 1, is by how many PLACES THE CLOTH is blown up (FIRST held within its bounds);");
    for (int width = 1; width <= 6; width++) {
      int last = 12 - width;
      for (int by = -1; by <= 1; by++) {
        due(windy(100, windOf(by), 0, width).cloth(0), Math.max(0, by));
        due(windy(100, windOf(by), last, width).cloth(0), Math.min(last, last + by));
        due(windy(100, windOf(by), 3, width).cloth(0), 3 + by);
      }
    }

    sentence("if it is not 0, TORN is 1 more.");
    due(windy(100, windOf(0), 3, 3).book(2), 0);
    due(windy(100, windOf(1), 3, 3).book(2), 1);
    due(windy(100, windOf(-1), 3, 3).book(2), 1);
    due(windy(100, windOf(-1), 0, 3).book(2), 1);
    due(windy(100, windOf(1), 9, 3).book(2), 1);

    sentence("THE HOUR is 1 more.");
    due(windy(100, windOf(1), 9, 3).count(1), 1);
    due(windy(0, windOf(1), 9, 3).count(1), 1);
  }

  private static void draws() {
    sentence("z is told (1 at first).");
    due(new OneCloth().count(6), 1);

    sentence("A draw: z becomes z * 1103515245 + 12345 (an int); it gives z >>> 8.");
    OneCloth x = still();
    x.hours(1);
    due(x.count(6), 1103527590);
    x.hours(1);
    // Beyond the ints it wraps.
    due(x.count(6), -1770082073);
    for (int z : new int[] {0, -1, LEAST, MOST}) {
      OneCloth y = still();
      y.seed(z);
      y.hours(1);
      due(y.count(6), (int) (z * 1103515245L + 12345L));
    }
    // z below 0: from -1 comes -1103502900, which gives 12466657, whose rest by 6 is 1.
    OneCloth d = new OneCloth();
    d.seed(-1);
    d.deal(1);
    due(d.told(0, 0), 1);

    sentence("STALLS that are drawn: KIND the rest of a draw by 6, PLACE that of one more by 12, PAY that of one more by 40.");
    boolean[] kinds = new boolean[6];
    boolean[] places = new boolean[12];
    boolean[] pays = new boolean[40];
    for (int seed = 0; seed < 100; seed++) {
      OneCloth s = new OneCloth();
      s.seed(seed * 7919);
      s.deal(9);
      int z = seed * 7919;
      for (int i = 0; i < 9; i++) {
        int[] rests = new int[3];
        for (int k = 0; k < 3; k++) {
          z = next(z);
          rests[k] = rest(z, k == 0 ? 6 : k == 1 ? 12 : 40);
        }
        due(s.told(i, 0), rests[0]);
        due(s.told(i, 1), rests[1]);
        due(s.told(i, 3), rests[2]);
        kinds[rests[0]] = places[rests[1]] = pays[rests[2]] = true;
      }
      due(s.count(6), z);
    }
    due(missing(kinds) + missing(places) + missing(pays), 0);
  }

  private static int missing(boolean[] row) {
    int n = 0;
    for (boolean seen : row) n += seen ? 0 : 1;
    return n;
  }

  // ---------------------------------------------------------------- section 3

  private static OneCloth told(OneCloth x) {
    x.sheet(0, 0, 5);
    return x;
  }

  private static void thought() {
    in("Terms 3");
    sentence("(All this is only thought, from now on, z as it is, without the bound of THE HOUR: nothing changes.)");
    Act[] thinking = {x -> x.behind(100, 0), x -> x.goods(0, 100), x -> x.best(5, 0), x -> x.wider(9999, 60),
      x -> x.wider(0, 60), x -> x.shaded(0, 60), x -> x.without(60, 0), x -> x.whose(0, 60, 0), OneCloth::fee, x -> x.fine(0)};
    for (Act think : thinking) unchanged(Sentences::busy, think.on(busy()), think);
    // At the last HOUR (t is 9, then 0, 1, ..): a STALL at 11 loses 5, 4, 5, .. in the sun.
    OneCloth x = one(at(9999, 0, 3), 0, 11, 0);
    due(x.behind(1, 0), 5);
    due(x.behind(2, 0), 9);
    due(x.goods(0, 3), 86);
    due(x.best(2, 1), 9);
    due(x.wider(8, 2), NONE);
    due(x.wider(9, 2), 1);
    due(told(x).whose(0, 2, 1), 91);
    x.set(0, 1, 3);
    due(x.shaded(0, 1), 1);
    due(x.shaded(0, 10), 3);
    x.set(0, 3, 10);
    x.stall(2, 3, 20);
    due(x.without(1, 1), 20);
    due(x.without(10, 1), 60);
    // z as it is: the wind that is thought is the wind that comes.
    for (int by = -1; by <= 1; by++) {
      OneCloth w = at(3, 5, 3);
      w.rule(2, 100);
      w.seed(windOf(by));
      due(w.behind(1, 2), 5 + by);
      due(w.behind(1, 2), 5 + by);
      w.hours(1);
      due(w.cloth(0), 5 + by);
    }

    sentence("BEHIND n HOURS: SPOILT; COINS; FIRST; TORN.");
    OneCloth b = busy();
    int[] now = {b.book(0), b.book(1), b.cloth(0), b.book(2)};
    for (int what = 0; what < 4; what++) due(b.behind(0, what), now[what]);
    int[] then = new int[4];
    for (int what = 0; what < 4; what++) then[what] = b.behind(100, what);
    b.hours(100);
    int[] is = {b.book(0), b.book(1), b.cloth(0), b.book(2)};
    for (int what = 0; what < 4; what++) due(is[what], then[what]);

    sentence("GOODS of a STALL behind n.");
    OneCloth g = busy();
    for (int i = 0; i < 5; i++) due(g.goods(i, 0), g.told(i, 2));
    int[] goods = new int[5];
    for (int i = 0; i < 5; i++) goods[i] = g.goods(i, 7);
    g.hours(7);
    for (int i = 0; i < 5; i++) due(g.told(i, 2), goods[i]);
  }

  private static void best() {
    sentence("BEST HAULING of n HOURS: of all rows of n haulings (0 not, 1 down, 2 up, in place of MODE),");
    due(one(at(4, 4, 1), 0, 4, 0).best(1, 0), 0);
    due(one(at(4, 4, 1), 0, 3, 0).best(1, 0), 1);
    due(one(at(4, 4, 1), 0, 5, 0).best(1, 0), 2);
    // MODE 2 would go after the PAY, and 8 would be lost.
    OneCloth m = one(one(at(4, 4, 1), 0, 4, 0), 2, 5, 99);
    m.rule(3, 2);
    due(m.best(1, 0), 0);
    due(m.best(1, 1), 0);
    due(m.behind(1, 0), 8);

    sentence("told as digits to the base of 3 (the first the highest),");
    due(one(at(4, 4, 1), 0, 5, 0).best(2, 0), 6);
    due(one(at(4, 4, 1), 0, 3, 0).best(2, 0), 3);
    due(one(at(4, 4, 1), 0, 6, 0).best(2, 0), 8);
    due(one(at(4, 4, 1), 0, 2, 0).best(2, 0), 4);
    // HOURS 2 and 3 have the SHADE of FIRST 4 at 3, HOURS 4 to 6 at 4: not, not, down, and not again.
    due(one(at(2, 4, 1), 0, 3, 0).best(3, 0), 1);
    due(one(at(2, 4, 1), 0, 3, 0).best(5, 0), 9);
    // Four ups bring the SHADE to 8 at HOUR 5, where it stays at HOUR 6; five bring it to 9.
    due(one(at(2, 4, 1), 0, 8, 0).best(5, 0), 240);
    due(one(at(2, 4, 1), 0, 9, 0).best(5, 0), 242);

    sentence("the one with the least SPOILT behind them (wind as it comes);");
    OneCloth w = one(at(4, 4, 1), 0, 6, 0);
    due(w.best(2, 0), 8);
    w.rule(2, 100);
    w.seed(windOf(1));
    due(w.best(2, 0), 2);
    due(w.best(2, 1), 8);
    w.seed(windOf(-1));
    due(w.best(2, 1), 17);
    due(w.best(2, 0), 0);

    sentence("of several the least number.");
    due(new OneCloth().best(5, 0), 0);
    due(one(at(4, 0, 1), 0, 11, 0).best(5, 0), 0);
    // Two ups, and then not; one up is enough for a wide cloth, and it is wanted at once.
    due(one(at(4, 0, 1), 0, 2, 0).best(3, 0), 24);
    due(one(at(4, 3, 3), 0, 6, 0).best(2, 0), 6);
    // HOUR 6, then 7: the SHADE goes up by itself, so not is as good as up.
    due(one(at(6, 3, 3), 0, 5, 0).best(2, 0), 0);
  }

  private static void wider() {
    sentence("WIDER for w and n: the least WIDTH 1 .. 6 (FIRST held within its bounds by it) with which SPOILT behind n HOURS is w at most.");
    // HOUR 4, FIRST 2, a STALL at each of 2 .. 8: each loses 8 in the sun.
    OneCloth x = at(4, 2, 3);
    for (int place = 2; place <= 8; place++) x.stall(0, place, 0);
    for (int width = 1; width <= 6; width++) {
      due(x.wider(8 * (7 - width), 1), width);
      due(x.wider(8 * (7 - width) - 1, 1), width < 6 ? width + 1 : NONE);
      due(x.wider(8 * (7 - width) + 1, 1), width);
    }
    // FIRST 11 of a narrow cloth: 4 wide it begins at 8, 6 wide at 6.
    OneCloth y = one(one(at(4, 11, 1), 0, 8, 0), 0, 6, 0);
    due(y.wider(16, 1), 1);
    due(y.wider(15, 1), 4);
    due(y.wider(8, 1), 4);
    due(y.wider(7, 1), 6);
    due(y.wider(0, 1), 6);
    due(y.cloth(0), 11);
    // What was SPOILT ahead is in it.
    y.hours(1);
    due(y.wider(15, 1), NONE);
    due(y.wider(16, 1), 6);
  }

  private static void shadedAndWithout() {
    sentence("SHADED: in how many of n HOURS a STALL is in SHADE at (2).");
    // Hauled to it, and not yet blown away; blown to it, and too late.
    OneCloth x = one(one(at(4, 4, 1), 2, 4, 0), 2, 5, 9);
    x.rule(2, 100);
    x.seed(windOf(1));
    due(x.shaded(0, 1), 1);
    due(x.shaded(1, 1), 0);
    due(x.shaded(1, 2), 1);
    x.rule(3, 2);
    due(x.shaded(0, 1), 0);
    due(x.shaded(1, 1), 1);
    OneCloth y = one(one(at(0, 2, 1), 2, 0, 0), 2, 11, 0);
    due(y.shaded(0, 1), 1);
    due(y.shaded(0, 2), 2);
    due(y.shaded(0, 3), 2);
    due(y.shaded(0, 60), 12);
    due(y.shaded(1, 60), 0);
    // The hauling of each HOUR is that of its own: up three times from HOUR 4 on, not, not, down, up, up, up, not, down, ..
    OneCloth lost = one(at(4, 4, 1), 0, 8, 0);
    lost.rule(3, 1);
    int[] byLoss = {0, 0, 0, 1, 2, 3, 3, 3, 4, 5, 6, 7, 8, 9};
    for (int n = 1; n <= byLoss.length; n++) due(lost.shaded(0, n), byLoss[n - 1]);
    // By PAY: not, not, not, up (when the SHADE has gone from the one to between both), not, down.
    OneCloth paid = one(one(at(4, 4, 1), 2, 4, 1), 2, 6, 9);
    paid.rule(3, 2);
    for (int n = 1; n <= 6; n++) due(paid.shaded(0, n), Math.min(n, 3));
    for (int n = 1; n <= 6; n++) due(paid.shaded(1, n), Math.max(0, n - 3));

    sentence("WITHOUT for n: the STALL with which, if its PAY were 0 now, COINS behind n HOURS are most; of several the least.");
    OneCloth w = one(one(one(at(4, 0, 3), 2, 0, 9), 2, 1, 5), 2, 2, 5);
    due(w.without(1, 0), 1);
    due(w.without(1, 1), 14);
    due(w.without(3, 1), 42);
    due(one(one(at(4, 0, 3), 2, 11, 7), 2, 10, 7).without(60, 0), 0);
    due(one(at(4, 0, 3), 2, 0, 7).without(1, 0), 0);
    due(one(at(4, 0, 3), 2, 0, 7).without(1, 1), 0);
    OneCloth nine = at(4, 0, 3);
    for (int i = 0; i < 9; i++) nine.stall(2, 0, i == 8 ? 0 : 1);
    due(nine.without(1, 0), 8);
    due(nine.without(1, 1), 8);
    due(nine.told(8, 3), 0);
    due(nine.told(0, 3), 1);
    // Now: it is hauled without that PAY too.
    OneCloth h = one(one(at(4, 4, 1), 2, 3, 30), 2, 5, 31);
    h.rule(3, 2);
    due(h.without(1, 0), 0);
    due(h.without(1, 1), 31);
  }

  private static void whoseHand() {
    // One HOUR: MODE 0 leaves 84 92, MODE 1 (down to 3) 100 92, MODE 2 (up to 7) 84 100.
    OneCloth x = one(one(at(4, 4, 3), 1, 3, 1), 0, 7, 9);
    sentence("WHOSE HAND by a SHEET, for n: the MODE 0 .. 2 with which GOODS of STALLS k behind n HOURS and places k that are numbers differ least");
    int[][] left = {{84, 92}, {100, 92}, {84, 100}};
    x.sheet(0, 1, 2);
    for (int mode = 0; mode < 3; mode++) {
      for (int k = 0; k < 2; k++) x.mark(0, k, left[mode][k]);
      due(x.whose(0, 1, 0), mode);
      due(x.whose(0, 1, 1), 0);
    }
    due(x.whose(0, 0, 1), 16);
    // NO NUMBER, and a STALL that has no place, do not count.
    x.mark(0, 0, NONE);
    due(x.whose(0, 1, 0), 2);
    due(x.whose(0, 1, 1), 0);
    x.mark(0, 1, NONE);
    due(x.whose(0, 1, 0), 0);
    due(x.whose(0, 1, 1), 0);
    x.sheet(1, 0, 1);
    x.mark(1, 0, 100);
    due(x.whose(1, 1, 0), 1);
    due(x.whose(1, 1, 1), 0);
    x.sheet(1, 0, 0);
    due(x.whose(1, 1, 0), 0);
    due(x.whose(1, 1, 1), 0);

    sentence("(signs left out; places beyond all STALLS: 0), together;");
    x.sheet(0, 1, 24);
    x.mark(0, 0, 90);
    x.mark(0, 1, 95);
    // 6 and 3, 10 and 3, 6 and 5: with signs MODE 1 or 2 would be least.
    due(x.whose(0, 1, 0), 0);
    due(x.whose(0, 1, 1), 9);
    for (int place = 2; place < 24; place++) x.mark(0, place, place % 2 == 0 ? 99999 : -99999);
    due(x.whose(0, 1, 0), 0);
    due(x.whose(0, 1, 1), 9);
    x.mark(0, 0, -99999);
    x.mark(0, 1, 99999);
    due(x.whose(0, 1, 0), 2);
    due(x.whose(0, 1, 1), 99999 + 84 + 99999 - 100);

    sentence("of several the least.");
    x.sheet(0, 1, 2);
    x.mark(0, 0, NONE);
    x.mark(0, 1, 96);
    due(x.whose(0, 1, 0), 0);
    due(x.whose(0, 1, 1), 4);
    x.mark(0, 0, 96);
    // 12 and 4, 4 and 4, 12 and 4.
    due(x.whose(0, 1, 0), 1);
    x.mark(0, 0, 92);
    // 8 and 4, 8 and 4, 8 and 4.
    due(x.whose(0, 1, 0), 0);
    due(x.whose(0, 1, 1), 12);
    x.mark(0, 0, 97);
    x.mark(0, 1, 105);
    // 13 and 13, 3 and 13, 13 and 5: 26, 16, 18.
    due(x.whose(0, 1, 0), 1);
    x.mark(0, 0, 96);
    // 25, 17, 17.
    due(x.whose(0, 1, 0), 1);
    due(x.whose(0, 1, 1), 17);
  }

  // ---------------------------------------------------------------- section 4

  private static void textsAndTape() {
    in("Terms 4");
    sentence("TEXTS, 14 at most, numbered from 0, from THE TAPE (96 bytes at most; an act that reads it uses it up, whatever it answers): KEY E.");
    OneCloth x = new OneCloth();
    for (int i = 0; i < 14; i++) {
      due(text(x, "fee " + i), i);
      due(x.count(5), 0);
    }
    due(text(x, "fee 99"), FULL);
    due(x.count(5), 0);
    due(x.fee(), 13);
    due(text(x, "fee"), -103);
    due(x.count(5), 0);
    OneCloth y = new OneCloth();
    for (int i = 1; i <= 8; i++) due(y.feed(0x20202020, 0x20202020, 0x20202020), 12 * i);
    due(y.feed(0, 0, 0), FULL);
    due(y.count(5), 96);
    due(y.text(), -196);
    due(y.count(5), 0);
    gives("fee" + " ".repeat(92) + "7", 7);
    gives(" ".repeat(91) + "fee 7", 7);
    faultAt("fee", 3);
    faultAt("7", 0);
    faultAt("fee 7 fee 7", 6);

    sentence("KEY: melt | fee | fine.");
    String[] keys = {"melt", "fee", "fine"};
    for (int key = 0; key < 3; key++) {
      OneCloth k = new OneCloth();
      due(text(k, keys[key] + " 1"), 0);
      due(k.textTold(0, 0), key);
      due(k.why(key), 0);
      faultAt(keys[key].substring(1) + " 1", 0);
      faultAt(keys[key].substring(0, keys[key].length() - 1) + " 1", 0);
      faultAt(keys[key] + "e 1", 0);
      faultAt("g" + keys[key].substring(1) + " 1", 0);
      faultAt(keys[key].toUpperCase() + " 1", 0);
      faultAt(keys[key] + " " + keys[key] + " 1", keys[key].length() + 1);
    }
  }

  private static void grammar() {
    sentence("E, the loosest first: OR: AND { | AND };");
    gives("fee 0|0", 0);
    gives("fee 0|0|0|4", 1);
    gives("fee 1|1&0", 1);
    gives("fee 0&1|1", 1);
    faultAt("fee |1", 4);
    faultAt("fee 1|", 6);
    faultAt("fee 1||1", 6);

    sentence("AND: TEST { & TEST };");
    gives("fee 3&4", 1);
    gives("fee 3&4&5&0", 0);
    gives("fee 1&2=2", 1);
    gives("fee 2=2&1", 1);
    gives("fee 1<2&2<3&3<4", 1);
    faultAt("fee &1", 4);
    faultAt("fee 1&", 6);
    faultAt("fee 1&&1", 6);

    sentence("TEST: SUM [ (< | = | >) SUM ];");
    gives("fee 3", 3);
    gives("fee 3<4", 1);
    gives("fee 4<4", 0);
    gives("fee 5<4", 0);
    gives("fee 3=4", 0);
    gives("fee 4=4", 1);
    gives("fee 5=4", 0);
    gives("fee 3>4", 0);
    gives("fee 4>4", 0);
    gives("fee 5>4", 1);
    gives("fee 1+1=4-2", 1);
    // One only: another needs a bracket, or stands behind & or |.
    faultAt("fee 1<2<3", 7);
    faultAt("fee 1<2=3", 7);
    faultAt("fee 1=2>3", 7);
    faultAt("fee (1<2=3)", 8);
    faultAt("fee 1<=2", 6);
    faultAt("fee 1<", 6);
    gives("fee (1<2)<3", 1);
    gives("fee 3>(2>1)", 1);
    gives("fee 1<2|2=3&4>5", 1);

    sentence("SUM: TERM { (+ | -) TERM };");
    gives("fee 9-3-2-1", 3);
    gives("fee 9-3+2", 8);
    gives("fee 1+2*3", 7);
    gives("fee 2*3+1", 7);
    faultAt("fee -1", 4);
    faultAt("fee +1", 4);
    faultAt("fee 1-", 6);
    faultAt("fee 1+-1", 6);

    sentence("TERM: PIECE { (* | /) PIECE };");
    gives("fee 100/5/2", 10);
    gives("fee 100/5*2", 40);
    gives("fee 7*2/3", 4);
    gives("fee 2*!0", 2);
    faultAt("fee *1", 4);
    faultAt("fee 1/", 6);
    faultAt("fee 1*/1", 6);

    sentence("PIECE: NUMBER (1 to 4 digits) | NAME | ! PIECE | ( E ).");
    gives("fee 0", 0);
    gives("fee 9", 9);
    gives("fee 10", 10);
    gives("fee 9999", 9999);
    gives("fee 0000", 0);
    gives("fee 0012", 12);
    faultAt("fee 10000", 4);
    faultAt("fee 00000", 4);
    gives("fee c", 0);
    gives("fee !c", 1);
    gives("fee !9", 0);
    gives("fee !!9", 1);
    gives("fee !0+5", 6);
    gives("fee !(0+5)", 0);
    gives("fee !0=0", 0);
    gives("fee(1|0)", 1);
    gives("fee((((7))))", 7);
    faultAt("fee ()", 5);
    faultAt("fee !", 5);
    faultAt("fee (1", 6);
    faultAt("fee 1)", 5);
    faultAt("fee (1))", 7);
    faultAt("fee 1(2)", 5);
    faultAt("fee 1!", 5);
    faultAt("fee (1)(2)", 7);
    faultAt("fee !)", 5);
    gives("fee 9-(8-(7-(6-(5-(4-(3-(2-(1))))))))", 5);
    // As much as can wait for what stands behind it: each of the seven levels makes 1 of 0, and 0 of 1.
    String deep = "fee " + "0|1&0=0+1*(".repeat(7);
    gives(deep + "0|1&0=0" + ")".repeat(7), 0);
    gives(deep + "0|1&0=1" + ")".repeat(7), 1);
    OneCloth melting = one(at(4, 0, 1), 0, 11, 0);
    due(text(melting, "melt" + deep.substring(3) + "h-g" + ")".repeat(7)), 0);
    due(melting.told(0, 4), 0);
    melting.set(0, 2, 40);
    due(melting.told(0, 4), 1);
    due(melting.textTold(0, 1), 37);
  }

  private static void names() {
    sentence("NAMES, each one letter: of melt h HEAT, g GOODS, p PAY;");
    OneCloth m = one(at(4, 0, 3), 0, 11, 3);
    text(m, "melt h");
    due(m.told(0, 4), 40);
    text(m, "melt g");
    due(m.told(0, 4), 100);
    text(m, "melt p");
    due(m.told(0, 4), 3);
    m.hours(1);
    text(m, "melt g-h");
    due(m.told(0, 4), 52);
    nameFaults("melt", "hgp");
    faultAt("melt hh", 5);
    faultAt("melt gp", 5);

    sentence("of fee c COINS, t TORN (what fee gives is told by fee(); without a TEXT: COINS);");
    OneCloth f = one(at(4, 0, 3), 2, 0, 7);
    due(f.fee(), 0);
    f.rule(2, 100);
    f.seed(windOf(-1));
    f.hours(1);
    due(f.fee(), 7);
    text(f, "melt 9");
    text(f, "fine 9");
    due(f.fee(), 7);
    text(f, "fee t");
    due(f.fee(), 1);
    text(f, "fee c");
    due(f.fee(), 7);
    nameFaults("fee", "ct");

    sentence("of fine g GOODS, s 1 if it is in SHADE (else 0) (what fine gives for a STALL is told by fine(); without a TEXT: GOODS).");
    OneCloth n = one(one(at(4, 0, 3), 0, 2, 7), 0, 3, 7);
    n.set(0, 2, 0);
    n.set(1, 2, 999);
    due(n.fine(0), 0);
    due(n.fine(1), 999);
    text(n, "melt 9");
    text(n, "fee 9");
    due(n.fine(1), 999);
    text(n, "fine s");
    due(n.fine(0), 1);
    due(n.fine(1), 0);
    text(n, "fine g");
    due(n.fine(0), 0);
    due(n.fine(1), 999);
    nameFaults("fine", "gs");
  }

  /** Every letter that is no NAME of this KEY is a FAULT, also one of another KEY. */
  private static void nameFaults(String key, String names) {
    for (char c = 'a'; c <= 'z'; c++) {
      if (names.indexOf(c) < 0) faultAt(key + " " + c, key.length() + 1);
      else due(text(new OneCloth(), key + " " + c), 0);
    }
  }

  private static void words() {
    sentence("A word is a row of letters a .. z, or of digits, as long as it goes; any other byte is a sign by itself.");
    for (int b = 0; b < 256; b++) {
      char c = (char) b;
      boolean digit = c >= '0' && c <= '9';
      boolean letter = c >= 'a' && c <= 'z';
      boolean joins = "+-*/<=>&|".indexOf(c) >= 0;
      // Alone as an E, between two NUMBERS, at the end, at the beginning.
      OneCloth x = new OneCloth();
      due(text(x, "fee " + c), digit || c == 'c' || c == 't' ? 0 : c == '!' || c == '(' || c == ' ' ? -105 : -104);
      due(text(new OneCloth(), "fee 1" + c + "1"), digit || joins ? 0 : c == ' ' ? -106 : -105);
      due(text(new OneCloth(), "fee 1" + c), digit || c == ' ' ? 0 : joins ? -106 : -105);
      due(text(new OneCloth(), c + "fee 1"), c == ' ' ? 0 : -100);
      // Right behind the KEY: a digit needs a blank, a letter makes it another word.
      due(text(new OneCloth(), "fee" + c), letter ? -100 : c == ' ' || c == '!' || c == '(' ? -104 : -103);
    }
    faultAt("fee ct", 4);
    faultAt("fee c t", 6);
    gives("fee 1+1", 2);
    gives("fee!!1", 1);

    sentence("Between words and signs, and at the ends, there may be blanks (byte 32);");
    gives("fee 2*(3+!0)", 8);
    gives("   fee   2   *   (   3   +   !   0   )   ", 8);
    gives("fee(2)", 2);
    gives("fee 1   ", 1);
    faultAt("fee\t1", 3);
    faultAt("fee 1\n", 5);
    faultAt("f ee 1", 0);
    faultAt("fee 1 2", 6);
    faultAt("fee 1< =2", 7);

    sentence("a word right behind another one needs one.");
    faultAt("fee1", 3);
    faultAt("fee 1c", 5);
    faultAt("fee c1", 5);
    faultAt("fee c+1t", 7);
    gives("fee 1", 1);
    gives("fee(1)", 1);
  }

  private static void faults() {
    sentence("FAULT: the first byte of the first word or sign with which no TEXT goes on");
    faultAt("fee cat", 4);
    faultAt("fee 1 + cat + dog", 8);
    faultAt("  fees 1", 2);
    faultAt("fee 1 ) ) (", 6);
    faultAt("fee (1 + ) 2", 9);
    faultAt("fee (1 2)", 7);
    faultAt("#", 0);
    faultAt("fee 1 #", 6);

    sentence("(a word that needs a blank ahead of it,");
    faultAt("fee1+2", 3);
    faultAt("fee 12c", 6);
    faultAt("fee c12345", 5);
    faultAt("fee (1)+2t", 9);

    sentence("a NUMBER of more than 4 digits,");
    faultAt("fee 12345", 4);
    faultAt("fee 1+12345", 6);
    faultAt("fee 1234567890123", 4);
    faultAt("fee 1234+00001", 9);
    gives("fee 1234+0001", 1235);

    sentence("the ninth ( that would be open within others,");
    gives("fee " + "(".repeat(8) + "5" + ")".repeat(8), 5);
    faultAt("fee " + "(".repeat(9) + "5" + ")".repeat(9), 12);
    faultAt("fee " + "(".repeat(8) + "1+(" + "5", 14);
    faultAt("fee " + "( ".repeat(9) + "5", 20);
    // Open at once: one that is shut again does not count.
    gives("fee (1)+(1)+(1)+(1)+(1)+(1)+(1)+(1)+(1)+(1)", 10);
    gives("fee " + "(".repeat(7) + "(1)+(1)" + ")".repeat(7), 2);
    faultAt("fee " + "(".repeat(7) + "(1)+((1))" + ")".repeat(7), 16);
    faultAt("fee " + "(".repeat(8) + "5" + ")".repeat(7), 20);

    sentence("the ninth ! likewise, each by itself);");
    gives("fee " + "!".repeat(8) + "5", 1);
    faultAt("fee " + "!".repeat(9) + "5", 12);
    faultAt("fee " + "! ".repeat(9) + "5", 20);
    gives("fee !1+!1+!1+!1+!1+!1+!1+!1+!1+!0", 1);
    gives("fee " + "!(".repeat(8) + "5" + ")".repeat(8), 1);
    faultAt("fee " + "!(".repeat(8) + "!5" + ")".repeat(8), 20);
    gives("fee " + "!(".repeat(7) + "!1+!1" + ")".repeat(7), 1);
    // Eight of each may be open together.
    gives("fee " + "(".repeat(8) + "!".repeat(8) + "0" + ")".repeat(8), 0);
    gives("fee " + "!".repeat(8) + "(".repeat(8) + "0" + ")".repeat(8), 0);
    faultAt("fee " + "(".repeat(8) + "!".repeat(9) + "0" + ")".repeat(8), 20);
    faultAt("fee " + "!".repeat(8) + "(".repeat(9) + "0" + ")".repeat(9), 20);

    sentence("the end (the place behind the last byte), if it comes too soon.");
    faultAt("", 0);
    faultAt(" ", 1);
    faultAt(" ".repeat(96), 96);
    faultAt("fee", 3);
    faultAt("fee  ", 5);
    faultAt("fee 1+", 6);
    faultAt("fee 1+   ", 9);
    faultAt("fee (1", 6);
    faultAt("fee (((1))", 10);
    faultAt("fee !!", 6);
    faultAt("fee " + "1+".repeat(46), 96);
    // Bytes that were there once are not read again.
    OneCloth x = new OneCloth();
    due(text(x, "  fee 1"), 0);
    due(x.text(), -100);
    due(text(x, "fee"), -103);
    faultsOneByOne();
  }

  /** What one TEXT left open, or where it ended, is nothing to the next one. */
  private static void faultsOneByOne() {
    OneCloth x = new OneCloth();
    for (int i = 0; i < 3; i++) {
      due(text(x, "fee cat"), -104);
      due(text(x, "fee ((((((5"), -111);
      due(text(x, "fee !!!!!!"), -110);
      due(text(x, "fee 5 5"), -106);
      due(text(x, "fee ((((((((!!!!!!!!5))))))))"), i);
      due(x.textTold(i, 1), 1);
      due(x.fee(), 1);
    }
  }

  private static void values() {
    sentence("Ints wrap;");
    // 8 ten times is 2 to the 30th.
    String most = "(8*8*8*8*8*8*8*8*8*8*2-1)";
    gives("fee " + most, MOST);
    gives("fee " + most + "+1", LEAST);
    gives("fee 0-" + most + "-2", MOST);
    gives("fee 9999*9999*9999", 9999 * 9999 * 9999);
    gives("fee (" + most + "+1)*2", 0);
    gives("fee (" + most + "+1)/(0-1)", LEAST);
    gives("fee " + most + "+1<0", 1);

    sentence("/ is 0 by 0;");
    gives("fee 7/0", 0);
    gives("fee 0/0", 0);
    gives("fee (0-7)/0", 0);
    gives("fee 7/(3-3)+1", 1);
    gives("fee 0/7", 0);

    sentence("tests, & | ! give 1 or 0 (what is not 0 is true; both sides are worked out).");
    gives("fee 5&7", 1);
    gives("fee 5&0", 0);
    gives("fee 0&5", 0);
    gives("fee 0&0", 0);
    gives("fee 5|7", 1);
    gives("fee 5|0", 1);
    gives("fee 0|5", 1);
    gives("fee (0-5)&(0-7)", 1);
    gives("fee 0|0-1", 1);
    gives("fee !(0-1)", 0);
    gives("fee !2", 0);
    gives("fee !0", 1);
    gives("fee (2<3)+(3>2)+(2=2)", 3);
    gives("fee 0&1/0", 0);
    gives("fee 1|1/0", 1);

    sentence("Of a KEY that TEXT counts that was told last.");
    OneCloth x = one(still(), 0, 11, 0);
    for (int key = 0; key < 3; key++) due(x.why(key), NONE);
    text(x, "fee 1");
    text(x, "fee 2");
    text(x, "fine 3");
    text(x, "melt 4");
    due(x.fee(), 2);
    text(x, "fine 5");
    text(x, "fee +");
    due(x.fee(), 2);
    due(x.fine(0), 5);
    due(x.told(0, 4), 4);
    text(x, "melt 1");
    due(x.told(0, 4), 1);
    int[] counting = {5, 1, 4};
    for (int key = 0; key < 3; key++) due(x.why(key), counting[key]);
    // The last that there can be counts, of each KEY.
    String[] keys = {"melt", "fee", "fine"};
    for (int key = 0; key < 3; key++) {
      OneCloth y = one(still(), 0, 11, 0);
      for (int i = 0; i < 14; i++) text(y, keys[key] + " 2" + (i + 10));
      due(y.why(key), 13);
      y.set(0, 2, 999);
      due(key == 0 ? y.told(0, 4) : key == 1 ? y.fee() : y.fine(0), 223);
    }
  }

  // ---------------------------------------------------------------- section 5

  private static void sheetsAndSlots() {
    in("Terms 5");
    sentence("SHEETS 0 .. 3 are rows of shorts (sort 0) or floats (1; whole numbers), with 0 to 24 places, or MISSING (at first).");
    OneCloth x = new OneCloth();
    for (int sheet = 0; sheet < 4; sheet++) {
      due(x.reads(sheet), NOTHING);
      for (int sort = 0; sort < 2; sort++) {
        due(x.sheet(sheet, sort, 0), 0);
        due(x.mark(sheet, 0, 0), INDEX);
        due(x.sheet(sheet, sort, 24), 24);
        due(x.mark(sheet, 23, 1), 1);
        due(x.mark(sheet, 24, 1), INDEX);
        due(x.sheet(sheet, sort, 25), BAD);
      }
    }
    due(x.sheet(4, 0, 1), BAD);
    due(x.sheet(-1, 0, 1), BAD);
    // Whole numbers that a float has exactly, and that a short has not.
    x.mark(3, 0, 99999);
    x.mark(3, 1, -99998);
    x.lay(0, 2, 3);
    due(x.item(0, 0), 99999);
    due(x.item(0, 1), -99998);

    sentence("A place of floats may be NO NUMBER.");
    due(x.mark(3, 2, NONE), 1);
    x.lay(0, 2, 3);
    due(x.item(0, 2), KIND);
    x.sheet(0, 0, 3);
    due(x.mark(0, 2, NONE), KIND);

    sentence("SLOTS 0 .. 4 each hold nothing (at first), a STALL (as it is then, for good), a SHEET (a row of its own, as it was then), or a number.");
    OneCloth s = new OneCloth();
    due(s.lay(5, 3, 1), BAD);
    due(s.lay(-1, 3, 1), BAD);
    for (int slot = 0; slot < 5; slot++) {
      due(s.item(slot, 0), NOTHING);
      due(s.lay(slot, 3, 70 + slot), 0);
    }
    for (int slot = 0; slot < 5; slot++) due(s.rest(slot, 100), 70 + slot);
    s.keep();
    s.stall(1, 0, 30);
    s.sheet(0, 0, 2);
    s.mark(0, 1, 8);
    due(s.lay(0, 1, 0), 3);
    due(s.lay(1, 2, 0), 3);
    s.set(0, 3, 40);
    s.turns(0, 2);
    s.mark(0, 1, 9);
    due(s.ask(0, 1), 36);
    due(s.item(1, 1), 8);
    // Even when there is no such STALL and no such SHEET any more; and SLOTS do not share what they hold.
    s.lay(2, 1, 0);
    s.back();
    s.sheet(0, -1, 0);
    due(s.count(0), 0);
    due(s.ask(0, 1), 36);
    due(s.ask(2, 2), 59);
    due(s.item(1, 1), 8);
    due(s.item(1, 2), INDEX);
  }

  private static void findings() {
    sentence("FINDINGS: NOTHING: a SHEET is MISSING, a SLOT holds nothing;");
    for (int sheet = 0; sheet < 4; sheet++) {
      int k = sheet;
      refused(OneCloth::new, NOTHING, x -> x.mark(k, 0, 0));
      refused(OneCloth::new, NOTHING, x -> x.pour(k));
      refused(OneCloth::new, NOTHING, x -> x.reads(k));
      refused(OneCloth::new, NOTHING, x -> x.whose(k, 0, 0));
      refused(OneCloth::new, NOTHING, x -> x.copy(k, 0, k, 0, 0));
      refused(OneCloth::new, NOTHING, x -> x.lay(0, 2, k));
    }
    for (int slot = 0; slot < 5; slot++) {
      int k = slot;
      refused(OneCloth::new, NOTHING, x -> x.ask(k, 0));
      refused(OneCloth::new, NOTHING, x -> x.item(k, 0));
      refused(OneCloth::new, NOTHING, x -> x.rest(k, 1));
    }
    // A SHEET with no places is there all the same.
    due(busy().pour(3), 0);
    due(busy().lay(4, 2, 3), 0);

    sentence("INDEX: there is no such place;");
    for (int place : outside(0, 5)) {
      refused(Sentences::busy, INDEX, x -> x.mark(0, place, 0));
      refused(Sentences::busy, INDEX, x -> x.item(1, place));
      refused(Sentences::busy, INDEX, x -> x.copy(0, place, 0, 0, 1));
      refused(Sentences::busy, INDEX, x -> x.copy(0, 0, 0, place, 1));
    }
    refused(Sentences::busy, INDEX, x -> x.mark(3, 0, 0));

    sentence("SIZE: a number of places is below 0;");
    for (int n : new int[] {-1, LEAST}) {
      refused(Sentences::busy, SIZE, x -> x.sheet(0, 0, n));
      refused(Sentences::busy, SIZE, x -> x.sheet(2, 1, n));
    }

    sentence("KIND: it is none (of a KIND, a number, or another thing).");
    refused(Sentences::busy, KIND, x -> x.as(0, 1));
    refused(Sentences::busy, KIND, x -> x.ask(0, 2));
    refused(Sentences::busy, KIND, x -> x.ask(1, 0));
    refused(Sentences::busy, KIND, x -> x.ask(2, 0));
    refused(Sentences::busy, KIND, x -> x.item(0, 0));
    refused(Sentences::busy, KIND, x -> x.item(2, 0));
    refused(Sentences::busy, KIND, x -> x.item(3, 2));
    refused(Sentences::busy, KIND, x -> x.rest(0, 1));
    refused(Sentences::busy, KIND, x -> x.rest(1, 1));
    refused(Sentences::busy, KIND, x -> x.mark(0, 0, NONE));
    refused(Sentences::busy, KIND, x -> x.copy(0, 0, 1, 0, 1));
  }

  private static void images() {
    sentence("AN IMAGE keeps all but SHEETS, SLOTS, numbers that wait, THE TAPE; all can become as it is (again and again).");
    OneCloth x = busy();
    OneCloth y = busy();
    x.keep();
    y.keep();
    for (int again = 0; again < 3; again++) {
      x.deal(2);
      x.turns(0, 3);
      x.set(1, 1, 9);
      x.set(2, 2, 900);
      x.set(3, 3, 1);
      x.rule(1, 5);
      x.rule(0, 1);
      x.rule(2, 77);
      x.rule(3, 2);
      x.hours(9);
      x.seed(99);
      due(x.back(), 5);
    }
    same(x, y);
    // TEXTS are kept too: those that came behind it are gone, and their numbers are given again.
    OneCloth t = new OneCloth();
    text(t, "fee 1");
    t.keep();
    for (int again = 0; again < 3; again++) {
      due(text(t, "fee 2" + again), 1);
      due(text(t, "fine 3"), 2);
      due(t.fee(), 20 + again);
      t.back();
      due(t.fee(), 1);
      due(t.count(3), 1);
      due(t.why(2), NONE);
      due(t.textTold(1, 0), BAD);
    }
    // What it does not keep stays as it has become.
    OneCloth s = busy();
    s.mark(0, 0, 1);
    s.sheet(2, 1, 3);
    s.lay(4, 3, 5);
    s.tell(6);
    s.trim(2);
    due(s.back(), 4);
    due(s.mark(2, 2, 0), 1);
    due(s.rest(4, 10), 5);
    due(s.count(4), 4);
    due(s.count(5), 2);
    s.lay(4, 2, 0);
    due(s.item(4, 0), 1);

    sentence("THE HOURS TOLD: of n HOURS, one behind the other, by THE IMAGE: SPOILT; FIRST, behind each.");
    OneCloth h = one(at(4, 0, 3), 0, 6, 0);
    h.rule(3, 1);
    h.hours(1);
    h.keep();
    // HOURS 5 and 6: up to 2 and 3, SHADE ends at 4 and 5; at HOUR 7 o is 1, and 6 is in SHADE without a haul.
    int[] told = {17, 2, 25, 3, 25, 3};
    h.hours(1);
    h.rule(3, 0);
    h.rule(0, 9);
    for (int v : told) h.tell(v);
    due(h.check(3), 0);
    int[] otherOrder = {2, 17, 3, 25, 3, 25};
    for (int v : otherOrder) h.tell(v);
    due(h.check(3), 1);
    // FIRST behind the HOUR is FIRST as the wind left it.
    OneCloth w = at(4, 5, 3);
    w.rule(2, 100);
    w.seed(windOf(1));
    w.keep();
    w.tell(0);
    w.tell(6);
    due(w.check(1), 0);
  }
}
