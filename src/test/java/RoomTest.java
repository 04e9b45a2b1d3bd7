import java.lang.management.ManagementFactory;

/** All of a run lives in one room: a new object is small, and no call makes an object. */
public final class RoomTest {
  private static final Check CHECK = new Check("RoomTest");
  private static final com.sun.management.ThreadMXBean BEAN = (com.sun.management.ThreadMXBean) ManagementFactory.getThreadMXBean();

  public static void main(String[] args) {
    new TwoBakers();
    long before = made();
    TwoBakers x = new TwoBakers();
    long size = made() - before;
    CHECK.due("bytes of a new object: " + size, size < 100000, true);
    dearTown(x);
    dearCalls(x);
    long start = made();
    for (int i = 0; i < 20; i++) {
      x.put(0, i % 12, 40);
      dearCalls(x);
    }
    long bytes = made() - start;
    CHECK.due("bytes made by calls: " + bytes, bytes < 4000, true);
    CHECK.end();
  }

  private static long made() {
    return BEAN.getThreadAllocatedBytes(Thread.currentThread().getId());
  }

  /** As much of a town as a text may tell. */
  private static void dearTown(TwoBakers x) {
    StringBuilder text = new StringBuilder();
    for (int k = 0; k < 12; k++) {
      text.append("corner ").append((char) ('a' + k)).append(" people ").append(9 * k).append(";");
    }
    for (int k = 0; k < 16; k++) {
      char from = (char) ('a' + k % 12);
      char to = (char) ('a' + (k + (k < 12 ? 1 : 6)) % 12);
      text.append("street ").append(from).append(' ').append(to).append(" 12 people ").append(k).append(";");
    }
    CHECK.due("town", Check.town(x, text.append("step 5;ask 40 60;").toString()), 12);
    for (int i = 0; i < 4; i++) {
      x.seller(3 * i, 40 + i, 0, i, i % 2);
    }
    for (int i = 0; i < 9; i++) {
      CHECK.due("law", Check.law(x, "apart " + i + ";open a g 3;shut b c;"), i);
    }
  }

  private static void dearCalls(TwoBakers x) {
    x.feed(0, 0, 0, 0, 0);
    x.town(20);
    x.best(0, 0);
    x.rest();
    x.chase(60, 0);
    x.rests(0, 1, 2, -1);
    x.lots(0, 1, 0, 1, 0);
    x.lead(0, 1, 0);
    x.prices(0, 1, -1);
    x.stage(0, 1, 2, 3, 0);
    x.loss();
    x.bestLaw(0, 1, 0);
    x.shift(1, 2);
    x.image();
    x.back(0);
    x.force(3);
    x.home();
  }
}
