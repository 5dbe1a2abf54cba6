import java.lang.management.ManagementFactory;

/** What an object and its 512 calls make stays small: all calls of a run live in one room of some 7.3 million fields. */
public final class RoomTest {
  // A field or element takes four bytes at least: so this is less than a hundredth of the room.
  private static final long MOST_BYTES = 200_000;

  private static int calls;

  public static void main(String[] args) {
    com.sun.management.ThreadMXBean bean = (com.sun.management.ThreadMXBean) ManagementFactory.getThreadMXBean();
    long worst = 0;
    for (int which = 0; which < 4; which++) {
      // The first time classes are loaded: the second one counts.
      run(which);
      long before = bean.getThreadAllocatedBytes(Thread.currentThread().getId());
      run(which);
      long made = bean.getThreadAllocatedBytes(Thread.currentThread().getId()) - before;
      System.out.println("run " + which + " makes " + made + " bytes");
      worst = Math.max(worst, made);
    }
    System.exit(worst <= MOST_BYTES ? 0 : 1);
  }

  private static void run(int which) {
    PieceFiles x = new PieceFiles();
    calls = 0;
    feed(x, 20, 0x613d2278);
    x.file();
    x.kind(1, true);
    for (calls += 2; calls < 512;) {
      switch (which) {
        case 0:
          feed(x, 3, 0x26263c26);
          x.tell(0);
          break;
        case 1:
          feed(x, 14, 0x616e793b);
          acts(x);
          break;
        case 2:
          x.kind(calls % 4, calls % 3 == 0);
          x.twice();
          break;
        default:
          x.image();
          x.back();
          x.unlock();
          x.undo();
          calls += 2;
          break;
      }
      calls += 2;
    }
  }

  private static void acts(PieceFiles x) {
    try {
      x.acts();
    } catch (IllegalArgumentException e) {
      calls++;
    }
  }

  private static void feed(PieceFiles x, int times, int number) {
    for (int i = 0; i < times; i++) {
      x.feed(number, number, number, number, number);
      calls++;
    }
  }
}
