import java.lang.management.ManagementFactory;

/** A run's calls share one room, so that the dearest calls may make next to nothing. */
public final class RoomTest {
  private static final int CALLS_OF_A_RUN = 512;
  /** The calls that are measured; with those that come ahead of them an object has 512 at most. */
  private static final int CALLS = 64;
  /** A run may make some 600,000 objects and 7.3 million elements; a tenth of that is far more than is needed. */
  private static final long MOST_OF_A_RUN = 730_000L * 8;
  private static final long MOST_OF_A_CALL = 64;

  interface Call {
    void on(Trellisworks x);
  }

  private static long sink = 0;

  public static void main(String[] args) {
    for (int i = 0; i < 3; i++) measure("warming up", x -> sink += x.decode(1, 1, 9), false);
    measure("roots", x -> sink += x.decode(0, 0, 9), true);
    measure("ring", x -> sink += x.decodeList(1, 1, 3, 9), true);
    measure("tail", x -> sink += x.decodeList(2, 2, 3, 9), true);
    measure("early", x -> sink += x.early(2, 2, 5), true);
    measure("twins", x -> sink += x.decodeTwins(3, 3, 20, 9), true);
    measure("graph", x -> sink += x.compare(4, 4, 'f', 200, 7), true);
    measure("splits", x -> sink += x.compare(5, 5, 'f', 200, 7), true);
    measure("weight", x -> sink += x.weight(1, 12, 9), true);
    measure("weight of splits", x -> sink += x.weight(6, 12, 9), true);
    measure("product", x -> sink += x.decode(7, 7, 9), true);
    measure("solved", x -> sink += x.solved(), true);
    measure("frame", x -> sink += x.frame(1, 10, 11) + x.read(11, 0, 12), true);
    measure("sound", x -> sink += x.isSound() ? 1 : 0, true);
    Check.end();
  }

  private static void fill(Trellisworks x, int shelf, int many, int reach) {
    for (int i = 0; i < many; i++) x.put(shelf, reach == 1 ? i % 2 : i * 37 % (2 * reach) - reach);
  }

  private static Trellisworks works() {
    Trellisworks x = new Trellisworks();
    x.roots(16, 9, 6);
    x.shift(4, 31, 21, 27, 'b', 15);
    x.shift(4, 31, 21, 27, 't', 15);
    x.twins(20, 's', 7, 3);
    x.graph(16, 8);
    for (int i = 0; i < 40; i++) x.edge(4, i % 8, i * 5 % 16);
    x.splits(4, 16, 4, false);
    x.splits(4, 12, 4, false);
    x.product();
    // three errors in the word of 0 alone are looked for the longest
    for (int i = 0; i < 15; i++) x.put(0, i < 12 ? 0 : 7);
    fill(x, 1, 48, 40);
    fill(x, 2, 60, 40);
    fill(x, 3, 60, 9);
    fill(x, 4, 16, 9);
    fill(x, 5, 16, 9);
    fill(x, 8, 16, 1);
    x.encode(7, 8, 7);
    fill(x, 10, 28, 1);
    fill(x, 13, 6, 1);
    fill(x, 14, 12, 1);
    x.source(14);
    for (int i = 0; i < 30; i++) x.come(i, false);
    for (int i = 0; i < 8; i++) x.request(1, 13);
    return x;
  }

  private static void measure(String what, Call call, boolean isChecked) {
    if (!(ManagementFactory.getThreadMXBean() instanceof com.sun.management.ThreadMXBean threads)) {
      Check.is("this machine does not tell what is made", true);
      return;
    }
    long id = Thread.currentThread().getId();
    long begin = threads.getThreadAllocatedBytes(id);
    Trellisworks x = works();
    long made = threads.getThreadAllocatedBytes(id);
    for (int i = 0; i < CALLS; i++) call.on(x);
    long end = threads.getThreadAllocatedBytes(id);
    if (!isChecked) return;
    long ofCall = (end - made) / CALLS;
    long ofRun = made - begin + ofCall * CALLS_OF_A_RUN;
    Check.is(what + ": a run makes " + ofRun, ofRun <= MOST_OF_A_RUN);
    Check.is(what + ": a call makes " + ofCall, ofCall <= MOST_OF_A_CALL);
  }
}
