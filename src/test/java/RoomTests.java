import java.lang.management.ManagementFactory;

/** All calls of a run share one room: a new object is small, and the dearest calls make nothing at all. */
public final class RoomTests {
  private static int sum = 0;

  public static void main(String[] args) {
    com.sun.management.ThreadMXBean threads = (com.sun.management.ThreadMXBean) ManagementFactory.getThreadMXBean();
    OneCloth x = new OneCloth();
    everyCall(x);
    everyCall(x);
    long before = threads.getCurrentThreadAllocatedBytes();
    for (int i = 0; i < 10; i++) everyCall(x);
    long made = threads.getCurrentThreadAllocatedBytes() - before;
    long ofItself = threads.getCurrentThreadAllocatedBytes();
    OneCloth other = new OneCloth();
    ofItself = threads.getCurrentThreadAllocatedBytes() - ofItself;
    sum += other.count(0);
    System.out.println("a new object: " + ofItself + " bytes; all calls, ten times: " + made + " bytes (" + sum + ")");
    if (made > 2000 || ofItself > 64000) {
      System.out.println("that is too much");
      System.exit(1);
    }
  }

  private static void everyCall(OneCloth x) {
    x.back();
    x.deal(9);
    x.rule(3, 1);
    x.rule(2, 50);
    // "melt" " h*g" "/50 "
    sum += x.feed(0x6d656c74, 0x20682a67, 0x2f353020) + x.text() + x.textTold(0, 1) + x.why(0);
    sum += x.feed(0, 0, 0) + x.trim(0);
    sum += x.keep() + x.told(0, 4) + x.as(0, 0) + x.turns(0, 1) + x.set(0, 2, 400) + x.cloth(6) + x.seed(5);
    sum += x.hours(100) + x.book(3) + x.behind(100, 0) + x.goods(0, 100) + x.best(5, 0) + x.wider(3000, 60);
    sum += x.shaded(0, 60) + x.without(60, 0) + x.fee() + x.fine(0);
    sum += x.sheet(0, 1, 24) + x.mark(0, 3, 4) + x.whose(0, 60, 0) + x.pour(0) + x.reads(0) + x.copy(0, 0, 0, 3, 9);
    sum += x.lay(0, 1, 0) + x.ask(0, 0) + x.lay(0, 2, 0) + x.item(0, 3) + x.lay(0, 3, 0) + x.rest(0, 3);
    sum += x.tell(4) + x.check(30) + x.count(2);
  }
}
