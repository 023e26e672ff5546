import java.lang.management.ManagementFactory;

/** What a run makes is counted: an object makes its rows once, and its calls make nothing. */
public final class RoomTest {
  private static final long MOST_BYTES_MADE = 64 * 1024;
  private static final long MOST_BYTES_CALLED = 64;
  private static final int[] TEXT = {112, 49, 99, 57, 48, 49, 49};

  private static long made() {
    return ((com.sun.management.ThreadMXBean) ManagementFactory.getThreadMXBean()).getThreadAllocatedBytes(Thread.currentThread().getId());
  }

  public static void main(String[] args) {
    dearest(new SandPiano());
    long start = made();
    SandPiano x = new SandPiano();
    long object = made() - start;
    start = made();
    long asking = made() - start;
    start = made();
    for (int i = 0; i < 5; i++) dearest(x);
    long calls = made() - start - asking;
    System.out.println("an object: " + object + " bytes; its calls: " + calls + " bytes");
    if (object > MOST_BYTES_MADE || calls > MOST_BYTES_CALLED) {
      System.out.println("too much is made");
      System.exit(1);
    }
  }

  private static long dearest(SandPiano x) {
    long sum = x.text(0, 32);
    for (int i = 0; i < TEXT.length; i++) sum += x.put(0, i, TEXT[i]);
    for (int i = 7; i < 32; i++) sum += x.put(0, i, TEXT[2 + (i - 7) % 5]);
    sum += x.piano(0) + x.row(0, 12) + x.row(1, 6) + x.row(2, 40);
    sum += x.best(5, 3) + x.rows(4) + x.most(3) + x.back(1, 4, 3) + x.bet(0, 5) + x.digs(0, 3) + x.lasts(0, 1);
    sum += x.tide(9) + x.keep(0) + x.duet(0, 0) + x.tune(0) + x.strike(2) + x.wind(59, 3) + x.on(0) + x.undo(0);
    return sum + x.fault(0) + x.digest() + x.copy(2, 0, 2, 1, 39) + x.mean(2);
  }
}
