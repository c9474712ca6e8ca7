import com.sun.management.ThreadMXBean;
import java.lang.management.ManagementFactory;

/** All calls of a run live in one room, so a call may make nothing, and an object only a little. */
public final class RoomTest {
  private static final int MOST_BYTES_OF_AN_OBJECT = 64 * 1024;
  private static final ThreadMXBean THREADS = (ThreadMXBean) ManagementFactory.getThreadMXBean();

  public static void main(String[] args) {
    Check.about("room");
    // Once before, so that the classes are loaded.
    allCalls(new SetFamilies());
    long start = made();
    SetFamilies x = new SetFamilies();
    long object = made() - start;
    Check.yes("a new object of " + object + " bytes is small", object <= MOST_BYTES_OF_AN_OBJECT);
    Check.due("bytes made by calls", 0, leastMadeByCalls(x));
    Check.end();
  }

  /** The least of some rounds, since the machine at times makes something of its own beside them. */
  private static long leastMadeByCalls(SetFamilies x) {
    long least = Long.MAX_VALUE;
    for (int round = 0; round < 10; round++) {
      long start = made();
      allCalls(x);
      least = Math.min(least, made() - start);
    }
    return least;
  }

  private static long made() {
    return THREADS.getThreadAllocatedBytes(Thread.currentThread().getId());
  }

  private static long allCalls(SetFamilies x) {
    long sum = x.setGround(10);
    for (int s = 0; s < 100; s++) {
      sum += x.add(0, s * 7) ? 1 : 0;
      sum += x.remove(0, s * 3) ? 1 : 0;
    }
    for (int operation = 0; operation <= 9; operation++) {
      sum += x.derive(1 + operation % 3, operation, 0);
      sum += x.combine(3, operation % 4, 0, 1);
    }
    sum += x.compress(0, 9, 2) + x.shift(1) + x.trace(2, 0, 77) + x.segment(3, 4, 50);
    sum += x.rank(700) + x.unrank(5, 77) + x.cascade(1000000, 3, 2) + x.shadowBound(54321, 4);
    sum += x.clearText() + x.type('0') + x.type(',') + x.type('-') + x.read(2);
    for (int f = 0; f < 4; f++) {
      sum += x.has(f, 9) ? 1 : 0;
      sum += x.size(f, -1) + x.size(f, 3) + x.get(f, 2) + x.degree(f, 1) + x.excess(f, 3);
      sum += x.weight(f, true) + x.dimension(f) + x.shattered(f) + x.crossing(f, 3 - f) + x.sunflower(f) + x.pairs(f, 2);
      for (int property = 0; property <= 5; property++) {
        sum += x.is(f, property) ? 1 : 0;
      }
    }
    return sum + x.digest() + x.undo();
  }
}
