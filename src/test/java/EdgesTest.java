import java.util.Set;

/**
 * The edges of each promise: of each argument the last number within and the first one beyond on each side, what is
 * empty and what is full, and each exception of each call with the order in which they come, behind which everything is
 * as it was. What a test is about is said in the words of the document.
 */
public final class EdgesTest {
  private static final Class<?> INDEX = Bench.INDEX;
  private static final Class<?> ARGUMENT = Bench.ARGUMENT;
  private static final Class<?> STATE = Bench.STATE;
  private static final Class<?> UNFIT = Bench.UNFIT;
  private static final Class<?> NONE = Bench.NONE;
  private static final Class<?> ARITHMETIC = Bench.ARITHMETIC;
  private static final Object Z = Bench.Z;
  private static final int LEAST = Integer.MIN_VALUE;
  private static final int MOST = Integer.MAX_VALUE;

  /** The codes of allKinds(). */
  private static final int ROOTS = 0;
  private static final int TAIL = 1;
  private static final int TWINS = 2;
  private static final int GRAPH = 3;
  private static final int SPLITS = 4;
  private static final int PRODUCT = 5;
  private static final int RING = 6;

  private static final String SYNC = "1 1 1 0 0 1 0 1";
  private static final String SIXTEEN = "1 0 1 1 0 0 1 0 1 1 1 0 0 1 0 1";

  public static void main(String[] args) {
    newObject();
    put();
    clearAndSize();
    at();
    soften();
    noise();
    roots();
    shift();
    shiftHoles();
    twins();
    graph();
    edge();
    splits();
    product();
    kindOf();
    encode();
    encodeRoots();
    encodeShift();
    encodeOthers();
    decode();
    decodeRows();
    decodeGivesUp();
    decodeList();
    early();
    decodeTwins();
    decodeGraph();
    decodeSplits();
    isOpen();
    ringsOfFour();
    traps();
    weight();
    weightLengths();
    allows();
    source();
    drop();
    come();
    peeledAndSolved();
    piece();
    frame();
    sync();
    read();
    readRooms();
    request();
    send();
    sendings();
    unseenAndRate();
    compare();
    acceptedShare();
    mean();
    isSound();
    // how many ones are asked for has no bounds
    Bench.wholeFace(Set.of("weight 2"));
    Check.end();
  }

  private static void says(String sentence) {
    Bench.says(sentence);
  }

  private static String many(int many, String number) {
    return (number + " ").repeat(many).trim();
  }

  /** Codes of each kind, with the numbers told above; the shelf 15 stays empty for as long as it tells no holes. */
  private static Bench allKinds() {
    Bench b = new Bench();
    b.due(ROOTS, "roots", 8, 3, 2);
    b.due(TAIL, "shift", 2, 7, 5, 0, 't', 15);
    b.due(TWINS, "twins", 4, 's', 1, 0);
    b.due(GRAPH, "graph", 3, 1);
    b.due(SPLITS, "splits", 2, 3, 4, false);
    b.due(PRODUCT, "product");
    b.due(RING, "shift", 2, 7, 5, 0, 'b', 15);
    for (int bit = 0; bit < 3; bit++) b.due(bit + 1, "edge", GRAPH, 0, bit);
    return b;
  }

  private static Bench tenCodes() {
    Bench b = new Bench();
    for (int i = 0; i < 10; i++) b.due(i, "splits", 1, 1, 8, false);
    return b;
  }

  // ---- promises 1 to 7: shelves

  private static void newObject() {
    says("Creates a bench with empty shelves, without codes, drops and requests.");
    Bench b = new Bench();
    for (int i = 0; i < 16; i++) {
      b.due(0, "size", i);
      b.refused(INDEX, "at", i, 0);
      b.refused(ARITHMETIC, "mean", i);
    }
    b.noCodes("kindOf", Z);
    for (int i = 0; i < 8; i++) b.refused(INDEX, "sendings", i);
    b.refused(NONE, "drop", 0);
    b.refused(NONE, "come", 0, false);
    b.refused(NONE, "peeled");
    b.refused(NONE, "solved");
    b.refused(INDEX, "piece", 0);
    b.due(0, "unseen");
    b.due(0, "rate");
    b.refused(ARITHMETIC, "acceptedShare");
    b.due(true, "isSound");
  }

  private static void put() {
    says("put: IndexOutOfBoundsException if there is no such shelf");
    Bench b = new Bench();
    b.range(INDEX, 0, 15, "put", Z, 5);
    says("put: IllegalArgumentException if the number is out of range");
    b.range(ARGUMENT, -999, 999, "put", 3, Z);
    b.due(1, "put", 3, -999);
    b.due(2, "put", 3, 999);
    b.dueRow(3, "-999 999");
    says("put: IllegalStateException if it has 64");
    for (int i = 3; i <= 63; i++) b.due(i, "put", 3, i);
    b.due(64, "put", 3, -1);
    b.refused(STATE, "put", 3, 0);
    b.refused(STATE, "put", 3, 999);
    b.due(1, "put", 4, 7);
    b.due(-1, "at", 3, 63);
    says("put: the exception that is listed first is thrown");
    b.refused(INDEX, "put", 16, 1000);
    b.refused(INDEX, "put", -1, -1000);
    b.refused(ARGUMENT, "put", 3, 1000);
    b.refused(ARGUMENT, "put", 3, -1000);
    says("put: returns how many numbers it has, again from its start behind clear");
    b.due(64, "clear", 3);
    b.due(1, "put", 3, 0);
    b.dueRow(3, "0");
  }

  private static void clearAndSize() {
    says("clear: IndexOutOfBoundsException if there is no such shelf");
    Bench b = new Bench();
    b.lay(0, "5 6").lay(15, "7");
    b.range(INDEX, 0, 15, "clear", Z);
    says("clear: returns how many numbers it had");
    b.due(2, "clear", 0);
    b.due(0, "clear", 0);
    b.dueRow(0, "");
    b.dueRow(15, "7");
    b.lay(1, many(64, "1"));
    b.due(64, "clear", 1);
    b.due(0, "clear", 1);
    says("size: IndexOutOfBoundsException if there is no such shelf");
    b.range(INDEX, 0, 15, "size", Z);
    says("size: returns how many");
    b.due(0, "size", 0);
    b.due(1, "size", 15);
    b.lay(0, many(64, "1"));
    b.due(64, "size", 0);
  }

  private static void at() {
    says("at: IndexOutOfBoundsException if there is no such shelf or index");
    Bench b = new Bench();
    for (int z : new int[] {0, MOST, -1, LEAST}) b.refused(INDEX, "at", 0, z);
    b.lay(0, "-999");
    b.range(INDEX, 0, 0, "at", 0, Z);
    b.due(-999, "at", 0, 0);
    b.lay(15, "10 20 30");
    b.noShelves("at", Z, 0);
    b.range(INDEX, 0, 2, "at", 15, Z);
    b.due(30, "at", 15, 2);
    b.lay(1, many(63, "0") + " 999");
    b.range(INDEX, 0, 63, "at", 1, Z);
    b.due(999, "at", 1, 63);
    says("at: what was put ahead of clear is no longer there");
    b.due(3, "clear", 15);
    b.due(1, "put", 15, 4);
    b.range(INDEX, 0, 0, "at", 15, Z);
  }

  private static void soften() {
    says("soften: IndexOutOfBoundsException if there is no such shelf, for either");
    Bench b = new Bench();
    b.lay(0, "0 1").lay(15, "1").lay(3, "0 2");
    b.range(INDEX, 0, 15, "soften", Z, 9, 4);
    b.range(INDEX, 0, 15, "soften", 0, 9, Z);
    says("soften: IllegalArgumentException if the strength is out of range");
    b.range(ARGUMENT, 1, 99, "soften", 0, Z, 4);
    b.due(2, "soften", 0, 99, 15);
    b.dueRow(15, "99 -99");
    b.due(2, "soften", 0, 1, 4);
    b.dueRow(4, "1 -1");
    says("soften: UnsupportedOperationException if the row is not of bits");
    b.refused(UNFIT, "soften", 3, 9, 4);
    b.refused(UNFIT, "soften", 4, 9, 4);
    b.lay(3, "-1");
    b.refused(UNFIT, "soften", 3, 9, 4);
    b.lay(3, many(63, "1") + " 2");
    b.refused(UNFIT, "soften", 3, 9, 4);
    says("soften: a full row, and an empty one, which is of bits too");
    b.lay(3, many(64, "1"));
    b.due(64, "soften", 3, 99, 3);
    b.dueRow(3, many(64, "-99"));
    b.due(0, "soften", 9, 5, 3);
    b.dueRow(3, "");
    says("soften: the exception that is listed first is thrown");
    b.lay(3, "2");
    b.refused(INDEX, "soften", 16, 0, 4);
    b.refused(INDEX, "soften", 3, 0, 16);
    b.refused(ARGUMENT, "soften", 3, 0, 4);
    b.refused(ARGUMENT, "soften", 3, 100, 4);
  }

  private static void noise() {
    says("noise: IndexOutOfBoundsException if there is no such shelf");
    Bench b = new Bench();
    b.lay(0, "5 -6 7").lay(15, "1 0 1");
    b.range(INDEX, 0, 15, "noise", Z, 'f', 500, 0, 3);
    says("noise: IllegalArgumentException if there is no such kind");
    b.signs(ARGUMENT, "fhdb", "noise", 0, Z, 500, 0, 3);
    says("noise: the odds, 0 to 1000");
    for (char kind : "fhdb".toCharArray()) b.range(ARGUMENT, 0, 1000, "noise", 0, kind, Z, 0, 3);
    says("noise: the number of holes, -999 to 999, of whatever kind the noise is");
    for (char kind : "fhdb".toCharArray()) b.range(ARGUMENT, -999, 999, "noise", 0, kind, 500, Z, 3);
    says("noise: the seed, 0 to 99999");
    for (char kind : "fhdb".toCharArray()) b.range(ARGUMENT, 0, 99999, "noise", 0, kind, 500, 0, Z);
    says("noise: the exception that is listed first is thrown");
    b.refused(INDEX, "noise", 16, 'x', -1, 1000, -1);
    says("noise: a number or kind out of range is refused for an empty row, too");
    b.refused(ARGUMENT, "noise", 5, 'x', 0, 0, 0);
    b.refused(ARGUMENT, "noise", 5, 'f', 1001, 0, 0);
    b.refused(ARGUMENT, "noise", 5, 'f', 0, 1000, 0);
    b.refused(ARGUMENT, "noise", 5, 'f', 0, 0, 100000);
    says("noise: returns how many numbers are other ones than before");
    b.due(0, "noise", 5, 'h', 1000, 7, 0);
    b.dueRow(5, "");
    b.due(0, "noise", 0, 'h', 0, 7, 0);
    b.dueRow(0, "5 -6 7");
    b.due(2, "noise", 0, 'h', 1000, 7, 0);
    b.dueRow(0, "7 7 7");
    b.due(3, "noise", 0, 'h', 1000, -999, 99999);
    b.due(3, "noise", 0, 'f', 1000, 0, 99999);
    b.dueRow(0, "999 999 999");
    b.due(3, "noise", 0, 'h', 1000, 0, 0);
    b.lay(1, many(64, "0"));
    b.due(64, "noise", 1, 'f', 1000, 0, 0);
    b.dueRow(1, many(64, "1"));
    b.due(64, "noise", 1, 'd', 1000, 0, 0);
    b.dueRow(1, many(64, "0"));
  }

  // ---- promises 8 to 15: codes

  private static void roots() {
    says("roots: the elements of the field, 8 or 16");
    Bench b = new Bench();
    b.taken("roots", 8, 1, 2);
    b.taken("roots", 16, 1, 2);
    b.beyond(ARGUMENT, new int[] {LEAST, -16, -8, 0, 1, 2, 4, 7, 9, 15, 17, 32, 64, MOST}, "roots", Z, 1, 2);
    says("roots: a code has 2 to 6 checks");
    b.range(ARGUMENT, 2, 6, "roots", 8, 1, Z);
    b.range(ARGUMENT, 2, 6, "roots", 16, 1, Z);
    says("roots: messages of k elements, at least 1, k and r together at most 1 less than the field has");
    for (int checks = 2; checks <= 6; checks++) {
      b.range(ARGUMENT, 1, 7 - checks, "roots", 8, Z, checks);
      b.range(ARGUMENT, 1, 15 - checks, "roots", 16, Z, checks);
    }
    says("roots: IllegalStateException if there are 10");
    for (int i = 0; i < 10; i++) b.due(i, "roots", 8, 1, 2);
    b.refused(STATE, "roots", 8, 1, 2);
    b.refused(STATE, "roots", 16, 13, 2);
    says("roots: the exception that is listed first is thrown");
    b.refused(ARGUMENT, "roots", 9, 1, 2);
    b.refused(ARGUMENT, "roots", 8, 6, 2);
    b.refused(ARGUMENT, "roots", 8, 1, 7);
  }

  private static void shift() {
    says("shift: IndexOutOfBoundsException if there is no such shelf");
    Bench b = new Bench();
    b.range(INDEX, 0, 15, "shift", 2, 7, 5, 0, 't', Z);
    says("shift: a code has a memory m, 1 to 4");
    b.range(ARGUMENT, 1, 4, "shift", Z, 3, 1, 0, 't', 0);
    says("shift: generators from 1 to one less than 2 to the power of m plus 1");
    for (int memory = 1; memory <= 4; memory++) {
      int top = new int[] {3, 7, 15, 31}[memory - 1];
      b.range(ARGUMENT, 1, top, "shift", memory, Z, 1, 0, 't', 0);
      b.range(ARGUMENT, 1, top, "shift", memory, 1, Z, 0, 'b', 0);
      says("shift: a third generator, or 0 for none");
      b.range(ARGUMENT, 0, top, "shift", memory, 1, top, Z, 't', 0);
    }
    says("shift: 't' or 'b'");
    b.signs(ARGUMENT, "tb", "shift", 2, 7, 5, 0, Z, 0);
    says("shift: the exception that is listed first is thrown");
    b.refused(INDEX, "shift", 0, 0, 0, -1, 'x', 16);
    b.refused(INDEX, "shift", 0, 0, 0, -1, 'x', -1);
    says("shift: IllegalStateException if there are 10");
    for (int i = 0; i < 9; i++) b.due(i, "shift", 2, 7, 5, 0, i % 2 == 0 ? 't' : 'b', 0);
    b.due(9, "shift", 4, 31, 31, 31, 'b', 0);
    b.refused(STATE, "shift", 2, 7, 5, 0, 't', 0);
    b.refused(INDEX, "shift", 2, 7, 5, 0, 't', 16);
    b.refused(ARGUMENT, "shift", 5, 7, 5, 0, 't', 0);
    b.refused(ARGUMENT, "shift", 2, 8, 5, 0, 't', 0);
    b.refused(ARGUMENT, "shift", 2, 7, 5, 0, 'x', 0);
    b.lay(0, "1");
    b.refused(ARGUMENT, "shift", 2, 7, 5, 0, 't', 0);
  }

  private static void shiftHoles() {
    says("shift: its holes are a row of at most 12 bits, as many as a multiple of the generators");
    for (int many = 0; many <= 64; many++) {
      Bench b = new Bench();
      b.lay(0, many(many, "1"));
      if (many <= 12 && many % 2 == 0) b.taken("shift", 2, 7, 5, 0, 't', 0);
      else if (many < 17 || many % 6 == 0) b.refused(ARGUMENT, "shift", 2, 7, 5, 0, 't', 0);
      if (many <= 12 && many % 3 == 0) b.taken("shift", 2, 7, 5, 3, 't', 0);
      else if (many < 17 || many % 6 == 0) b.refused(ARGUMENT, "shift", 2, 7, 5, 3, 't', 0);
    }
    says("shift: at least one of them 1");
    for (int many = 2; many <= 12; many++) {
      for (int generators = 2; generators <= 3; generators++) {
        if (many % generators != 0) continue;
        Bench b = new Bench();
        b.lay(0, many(many, "0"));
        b.refused(ARGUMENT, "shift", 2, 7, 5, generators == 3 ? 7 : 0, 't', 0);
        b.lay(0, many(many - 1, "0") + " 1");
        b.taken("shift", 2, 7, 5, generators == 3 ? 7 : 0, 't', 0);
        b.lay(0, "1 " + many(many - 1, "0"));
        b.taken("shift", 2, 7, 5, generators == 3 ? 7 : 0, 't', 0);
      }
    }
    says("shift: the row cannot be its holes if it is not of bits");
    for (String holes : new String[] {"2 1", "1 2", "-1 1", "1 -1", "1 1 1 1 1 1 1 1 1 1 1 999"}) {
      Bench b = new Bench();
      b.lay(0, holes);
      b.refused(ARGUMENT, "shift", 2, 7, 5, 0, 't', 0);
    }
    says("shift: its holes are the row of a shelf, or none if that is empty");
    Bench b = new Bench();
    b.lay(0, "1 0");
    b.due(0, "shift", 2, 7, 5, 0, 't', 0);
    b.due(1, "shift", 2, 7, 5, 0, 't', 1);
    b.lay(0, "1");
    b.due(3, "encode", 0, 0, 1);
    b.due(6, "encode", 1, 0, 1);
  }

  private static void twins() {
    says("twins: messages of a length L, 4 to 20");
    Bench b = new Bench();
    for (char law : "srd".toCharArray()) b.range(ARGUMENT, 4, 20, "twins", Z, law, 1, 0);
    says("twins: 's', 'r' or 'd'");
    b.signs(ARGUMENT, "srd", "twins", 7, Z, 1, 0);
    says("twins: the number a, 1 to 99");
    b.range(ARGUMENT, 1, 99, "twins", 7, 's', Z, 0);
    b.range(ARGUMENT, 1, 99, "twins", 7, 'd', Z, 0);
    says("twins: the number b, 0 to 99999");
    for (char law : "srd".toCharArray()) b.range(ARGUMENT, 0, 99999, "twins", 7, law, 1, Z);
    says("twins: a has a divisor in common with L for s");
    for (int length = 4; length <= 20; length++) {
      for (int a = 1; a <= 99; a++) {
        boolean isCommon = new java.math.BigInteger("" + a).gcd(new java.math.BigInteger("" + length)).intValue() > 1;
        if (!isCommon && a % 7 == 1) b.taken("twins", length, 's', a, 5);
        if (isCommon && (a < 12 || a % 7 == 1)) b.refused(ARGUMENT, "twins", length, 's', a, 5);
        if (isCommon && a % 10 == 0) b.taken("twins", length, 'd', a, 5);
      }
    }
    says("twins: a is greater than L for r");
    for (int length = 4; length <= 20; length++) b.range(ARGUMENT, 1, length, "twins", length, 'r', Z, 0);
    says("twins: IllegalStateException if there are 10");
    Bench full = tenCodes();
    for (char law : "srd".toCharArray()) {
      full.refused(STATE, "twins", 4, law, 1, 0);
      full.refused(ARGUMENT, "twins", 3, law, 1, 0);
    }
    full.refused(ARGUMENT, "twins", 4, 's', 2, 0);
    full.refused(ARGUMENT, "twins", 4, 'r', 5, 0);
    Bench nine = new Bench();
    for (int i = 0; i < 9; i++) nine.due(i, "product");
    nine.due(9, "twins", 20, 'd', 99, 99999);
    nine.refused(STATE, "twins", 20, 'd', 99, 99999);
  }

  private static void graph() {
    says("graph: a code has n bits, 2 to 16");
    Bench b = new Bench();
    b.range(ARGUMENT, 2, 16, "graph", Z, 1);
    b.range(ARGUMENT, 2, 16, "graph", Z, 8);
    says("graph: and c checks, 1 to 8");
    b.range(ARGUMENT, 1, 8, "graph", 2, Z);
    b.range(ARGUMENT, 1, 8, "graph", 16, Z);
    says("graph: adds a graph code without edges");
    b.due(0, "graph", 16, 8);
    for (int odd = 0; odd <= 8; odd++) b.due(odd == 0 ? 16 : 0, "traps", 0, 1, odd);
    b.due(1, "edge", 0, 7, 15);
    says("graph: IllegalStateException if there are 10");
    for (int i = 1; i < 10; i++) b.due(i, "graph", 2, 1);
    b.refused(STATE, "graph", 2, 1);
    b.refused(ARGUMENT, "graph", 17, 1);
    b.refused(ARGUMENT, "graph", 2, 9);
  }

  private static void edge() {
    says("edge: IndexOutOfBoundsException if there is no such code; UnsupportedOperationException if it is no graph code");
    Bench b = allKinds();
    b.codes(UNFIT, "l", "edge", Z, 0, 0);
    says("edge: IllegalArgumentException if there is no such check or bit");
    b.range(ARGUMENT, 0, 0, "edge", GRAPH, Z, 0);
    b.range(ARGUMENT, 0, 2, "edge", GRAPH, 0, Z);
    b.due(7, "graph", 16, 8);
    b.range(ARGUMENT, 0, 7, "edge", 7, Z, 0);
    b.range(ARGUMENT, 0, 15, "edge", 7, 0, Z);
    says("edge: adds an edge, or takes it away; returns how many edges it has");
    b.due(1, "edge", 7, 7, 15);
    b.due(2, "edge", 7, 0, 0);
    b.due(1, "edge", 7, 7, 15);
    b.due(0, "edge", 7, 0, 0);
    for (int i = 0; i < 128; i++) b.due(i + 1, "edge", 7, i / 16, i % 16);
    b.due(127, "edge", 7, 7, 15);
    says("edge: the exception that is listed first is thrown");
    b.refused(INDEX, "edge", 8, 99, 99);
    b.refused(UNFIT, "edge", PRODUCT, 99, 99);
  }

  private static void splits() {
    says("splits: a code has 2 to the power of s places, s 1 to 4");
    Bench b = new Bench();
    b.range(ARGUMENT, 1, 4, "splits", Z, 1, 8, false);
    says("splits: how many places are open, 1 to all");
    for (int power = 1; power <= 4; power++) b.range(ARGUMENT, 1, 1 << power, "splits", power, Z, 8, false);
    says("splits: whether it is checked; two places are open then at least");
    for (int power = 1; power <= 4; power++) b.range(ARGUMENT, 2, 1 << power, "splits", power, Z, 8, true);
    says("splits: with a loss from 1 to 15");
    b.range(ARGUMENT, 1, 15, "splits", 4, 8, Z, false);
    b.range(ARGUMENT, 1, 15, "splits", 1, 2, Z, true);
    says("splits: IllegalStateException if there are 10");
    for (int i = 0; i < 10; i++) b.due(i, "splits", 1, 2, 8, true);
    b.refused(STATE, "splits", 1, 2, 8, true);
    b.refused(ARGUMENT, "splits", 0, 1, 8, false);
    b.refused(ARGUMENT, "splits", 1, 1, 8, true);
    b.refused(ARGUMENT, "splits", 1, 1, 16, false);
  }

  private static void product() {
    says("product: IllegalStateException if there are 10");
    Bench b = new Bench();
    for (int i = 0; i < 10; i++) b.due(i, "product");
    b.refused(STATE, "product");
    b.refused(STATE, "product");
    b.due('h', "kindOf", 9);
  }

  private static void kindOf() {
    says("kindOf: IndexOutOfBoundsException if there is no such code");
    Bench b = new Bench();
    b.noCodes("kindOf", Z);
    b.due(0, "product");
    b.range(INDEX, 0, 0, "kindOf", Z);
    Bench all = allKinds();
    all.range(INDEX, 0, 6, "kindOf", Z);
    says("kindOf: returns 'r', 'c', 't', 'l', 'p' or 'h'");
    for (int i = 0; i < 7; i++) all.due("rctlphc".charAt(i), "kindOf", i);
    Bench full = tenCodes();
    full.range(INDEX, 0, 9, "kindOf", Z);
  }

  // ---- promise 16: encode

  private static void encode() {
    says("encode: IndexOutOfBoundsException if there is no such code or shelf");
    Bench b = allKinds();
    b.lay(0, "1 0 1").lay(15, "1 1 1");
    b.noCodes("encode", Z, 0, 1);
    for (int code : new int[] {ROOTS, TAIL, SPLITS, RING}) {
      b.range(INDEX, 0, 15, "encode", code, Z, 1);
      b.range(INDEX, 0, 15, "encode", code, 0, Z);
    }
    says("encode: UnsupportedOperationException if the row is no message of the code");
    b.lay(1, "");
    for (int code = 0; code < 7; code++) b.refused(UNFIT, "encode", code, 1, 2);
    b.lay(1, many(64, "1"));
    for (int code = 0; code < 7; code++) b.refused(UNFIT, "encode", code, 1, 2);
    b.refused(UNFIT, "encode", TAIL, 1, 1);
    says("encode: the exception that is listed first is thrown");
    b.refused(INDEX, "encode", ROOTS, 1, 16);
    b.refused(INDEX, "encode", ROOTS, -1, 1);
    b.refused(INDEX, "encode", 7, 1, 1);
  }

  private static void encodeRoots() {
    says("encode: messages of roots have k elements");
    for (int elements = 8; elements <= 16; elements += 8) {
      for (int message : new int[] {1, 3, elements - 3}) {
        Bench b = new Bench();
        b.due(0, "roots", elements, message, 2);
        for (int wrong : new int[] {0, message - 1, message + 1, message + 2}) {
          if (wrong == message) continue;
          b.lay(0, many(wrong, "1"));
          b.refused(UNFIT, "encode", 0, 0, 1);
        }
        b.lay(0, many(message, "" + (elements - 1)));
        b.due(message + 2, "encode", 0, 0, 1);
        b.lay(0, many(message, "0"));
        b.due(message + 2, "encode", 0, 0, 1);
        b.dueRow(1, many(message + 2, "0"));
        for (int wrong : new int[] {elements, -1, 999, -999}) {
          b.lay(0, many(message - 1, "0") + " " + wrong);
          b.refused(UNFIT, "encode", 0, 0, 1);
          b.lay(0, wrong + " " + many(message - 1, "0"));
          b.refused(UNFIT, "encode", 0, 0, 1);
        }
      }
    }
  }

  private static void encodeShift() {
    says("encode: messages of shift codes have 1 to 16 bits");
    for (int memory = 1; memory <= 4; memory++) {
      Bench b = new Bench();
      b.due(0, "shift", memory, 3, 1, 2, 't', 15);
      b.due(1, "shift", memory, 3, 1, 2, 'b', 15);
      b.refused(UNFIT, "encode", 0, 0, 1);
      b.lay(0, "1");
      b.due(3 * (1 + memory), "encode", 0, 0, 1);
      b.lay(0, many(16, "1"));
      says("encode: the longest word has 60 numbers, so that none is longer than 64");
      b.due(3 * (16 + memory), "encode", 0, 0, 1);
      b.due(48, "encode", 1, 0, 1);
      b.lay(0, many(17, "1"));
      b.refused(UNFIT, "encode", 0, 0, 1);
      b.refused(UNFIT, "encode", 1, 0, 1);
      says("encode: for 'b' at least m");
      b.lay(0, many(memory - 1, "1"));
      b.refused(UNFIT, "encode", 1, 0, 1);
      b.lay(0, many(memory, "1"));
      b.due(3 * memory, "encode", 1, 0, 1);
      for (String wrong : new String[] {"2", "-1"}) {
        b.lay(0, many(memory, "1") + " " + wrong);
        b.refused(UNFIT, "encode", 0, 0, 1);
        b.refused(UNFIT, "encode", 1, 0, 1);
      }
    }
  }

  private static void encodeOthers() {
    says("encode: messages of a twin code have L bits");
    for (int length : new int[] {4, 5, 20}) {
      Bench b = new Bench();
      b.due(0, "twins", length, 'd', 1, 0);
      b.lay(0, many(length - 1, "1"));
      b.refused(UNFIT, "encode", 0, 0, 1);
      b.lay(0, many(length + 1, "1"));
      b.refused(UNFIT, "encode", 0, 0, 1);
      b.lay(0, many(length - 1, "1") + " 2");
      b.refused(UNFIT, "encode", 0, 0, 1);
      b.lay(0, "-1 " + many(length - 1, "1"));
      b.refused(UNFIT, "encode", 0, 0, 1);
      b.lay(0, many(length, "1"));
      b.due(3 * length, "encode", 0, 0, 1);
    }
    says("encode: a message has as many bits as there are free ones, at least 1");
    Bench graph = new Bench();
    graph.due(0, "graph", 3, 3);
    for (int free = 3; free >= 0; free--) {
      graph.lay(0, many(free + 1, "0"));
      graph.refused(UNFIT, "encode", 0, 0, 1);
      graph.lay(0, many(free, "0"));
      if (free > 0) graph.due(3, "encode", 0, 0, 1);
      else graph.refused(UNFIT, "encode", 0, 0, 1);
      if (free > 1) graph.lay(0, many(free - 1, "0"));
      if (free > 1) graph.refused(UNFIT, "encode", 0, 0, 1);
      if (free > 0) graph.lay(0, many(free - 1, "0") + " 2");
      if (free > 0) graph.refused(UNFIT, "encode", 0, 0, 1);
      if (free > 0) graph.due(4 - free, "edge", 0, 3 - free, 3 - free);
    }
    says("encode: a message has k bits, or one less if the code is checked");
    for (int open : new int[] {2, 5, 16}) {
      Bench b = new Bench();
      b.due(0, "splits", 4, open, 8, false);
      b.due(1, "splits", 4, open, 8, true);
      for (int many = 0; many <= 17; many++) {
        b.lay(0, many(many, "1"));
        if (many == open) b.due(16, "encode", 0, 0, 1);
        else if (Math.abs(many - open) < 3) b.refused(UNFIT, "encode", 0, 0, 1);
        if (many == open - 1) b.due(16, "encode", 1, 0, 1);
        else if (Math.abs(many - open) < 3) b.refused(UNFIT, "encode", 1, 0, 1);
      }
      b.lay(0, many(open - 1, "1") + " -1");
      b.refused(UNFIT, "encode", 0, 0, 1);
    }
    says("encode: messages of a product have 16 bits, words 49");
    Bench product = new Bench();
    product.due(0, "product");
    product.lay(0, many(15, "1"));
    product.refused(UNFIT, "encode", 0, 0, 1);
    product.lay(0, many(17, "1"));
    product.refused(UNFIT, "encode", 0, 0, 1);
    product.lay(0, many(15, "1") + " 2");
    product.refused(UNFIT, "encode", 0, 0, 1);
    product.lay(0, many(16, "1"));
    product.due(49, "encode", 0, 0, 1);
    product.dueRow(1, many(49, "1"));
  }

  // ---- promises 17 to 22: decoding

  private static void decode() {
    says("decode: IndexOutOfBoundsException if there is no such code or shelf");
    Bench b = allKinds();
    b.noCodes("decode", Z, 0, 1);
    b.lay(0, "1 2 3 4 5").lay(15, "1 2 3 4 6");
    b.range(INDEX, 0, 15, "decode", ROOTS, 0, Z);
    b.noShelves("decode", ROOTS, Z, 1);
    b.taken("decode", ROOTS, 15, 0);
    b.lay(0, "1 2 3 4").lay(15, "1 -2 3 -4");
    for (int code : new int[] {SPLITS, RING}) {
      b.range(INDEX, 0, 15, "decode", code, 0, Z);
      b.noShelves("decode", code, Z, 1);
      b.taken("decode", code, 15, 0);
    }
    b.noShelves("decode", TAIL, Z, 1);
    b.noShelves("decode", TAIL, 0, Z);
    b.noShelves("decode", PRODUCT, Z, 1);
    b.noShelves("decode", PRODUCT, 0, Z);
    says("decode: IllegalArgumentException if it is a twin or graph code");
    b.lay(0, many(12, "1"));
    b.refused(ARGUMENT, "decode", TWINS, 0, 1);
    b.lay(0, "1 1 1");
    b.refused(ARGUMENT, "decode", GRAPH, 0, 1);
    says("decode: the exception that is listed first is thrown");
    b.noShelves("decode", TWINS, Z, 1);
    b.noShelves("decode", GRAPH, 5, Z);
    b.refused(ARGUMENT, "decode", TWINS, 5, 1);
    b.refused(ARGUMENT, "decode", GRAPH, 5, 1);
  }

  private static void decodeRows() {
    says("decode: UnsupportedOperationException if the row does not fit the code");
    Bench b = allKinds();
    int[] codes = {ROOTS, TAIL, SPLITS, PRODUCT, RING};
    for (int many = 0; many <= 64; many++) {
      b = allKinds();
      b.lay(0, many(many, "1"));
      boolean[] fits = {many == 5, many >= 6 && many <= 36 && many % 2 == 0, many == 4, many == 49, many >= 4 && many <= 32 && many % 2 == 0};
      for (int i = 0; i < codes.length; i++) {
        if (fits[i]) b.taken("decode", codes[i], 0, 1);
        else b.refused(UNFIT, "decode", codes[i], 0, 1);
      }
    }
    says("decode: elements or -1 for holes");
    for (int place = 0; place < 5; place++) {
      for (int z : new int[] {-2, 8, -999, 999}) {
        b.lay(0, many(place, "0") + " " + z + " " + many(4 - place, "0"));
        b.refused(UNFIT, "decode", ROOTS, 0, 1);
      }
      b.lay(0, many(place, "0") + " -1 " + many(4 - place, "0"));
      b.taken("decode", ROOTS, 0, 1);
      b.lay(0, many(place, "0") + " 7 " + many(4 - place, "0"));
      b.taken("decode", ROOTS, 0, 1);
      if (place % 2 == 1) b = allKinds();
    }
    says("decode: a row of 49 bits");
    for (int z : new int[] {-1, 2}) {
      b = allKinds();
      b.lay(0, many(48, "0") + " " + z);
      b.refused(UNFIT, "decode", PRODUCT, 0, 1);
      b.lay(0, z + " " + many(48, "0"));
      b.refused(UNFIT, "decode", PRODUCT, 0, 1);
    }
    says("decode: a soft row may have all numbers");
    b = allKinds();
    b.lay(0, "-999 999 -999 999");
    b.due(4 * 999, "decode", RING, 0, 1);
    b.dueRow(1, "1 1");
    b.lay(0, "999 -999 999 -999");
    b.due(0, "decode", SPLITS, 0, 1);
    b.dueRow(1, "0 1 1");
  }

  private static void decodeGivesUp() {
    says("decode: NoSuchElementException if it gives up");
    Bench b = allKinds();
    b.lay(1, "77");
    b.lay(0, "-1 -1 -1 0 0");
    b.refused(NONE, "decode", ROOTS, 0, 1);
    b.refused(NONE, "decode", ROOTS, 0, 0);
    b.lay(0, "-1 -1 1 0 0");
    b.due(0, "decode", ROOTS, 0, 2);
    b.dueRow(1, "77");
    says("decode: a checked split code whose one row is wrong gives up");
    b.due(7, "splits", 1, 2, 8, true);
    b.lay(0, "-5 3");
    b.refused(NONE, "decode", 7, 0, 1);
    b.lay(0, "5 3");
    b.due(0, "decode", 7, 0, 1);
    b.dueRow(1, "0");
    says("decode: products in 10 goes give up if not all rows and columns are even then");
    int givenUp = 0;
    for (int seed = 0; seed < 60 && givenUp < 3; seed++) if (isGivenUp(seed)) givenUp++;
    Check.same("products that are given up", givenUp, 3);
  }

  /** Whether a product's row is given up that this seed makes of nothing; then it must change nothing. */
  private static boolean isGivenUp(int seed) {
    Bench p = new Bench();
    p.due(0, "product");
    p.lay(0, many(49, "0"));
    p.does("noise", 0, 'f', 300, 0, seed);
    p.lay(1, "77");
    if (p.does("decode", 0, 0, 1) != NONE) return false;
    p.refused(NONE, "decode", 0, 0, 1);
    p.dueRow(1, "77");
    return true;
  }

  private static void decodeList() {
    says("decodeList: IndexOutOfBoundsException if there is no such code or shelf");
    Bench b = allKinds();
    b.lay(0, "1 -2 3 -4 5 -6").lay(15, "1 2 3 4 5 6");
    b.codes(ARGUMENT, "c", "decodeList", Z, 0, 0, 1);
    for (int code : new int[] {TAIL, RING}) {
      b.range(INDEX, 0, 15, "decodeList", code, 0, 1, Z);
      b.noShelves("decodeList", code, Z, 1, 2);
      b.taken("decodeList", code, 15, 1, 2);
    }
    says("decodeList: the place in the order of messages, 0 to 3");
    b.range(ARGUMENT, 0, 3, "decodeList", RING, 0, Z, 1);
    b.lay(1, "1 -2 3 -4 5 -6 1 1");
    b.range(ARGUMENT, 0, 3, "decodeList", TAIL, 1, Z, 2);
    says("decodeList: NoSuchElementException if there are not so many messages");
    b.due(-1 + 2 - 3 - 4 - 5 + 6, "decodeList", TAIL, 0, 1, 2);
    b.lay(2, "77");
    b.refused(NONE, "decodeList", TAIL, 0, 2, 2);
    b.refused(NONE, "decodeList", TAIL, 0, 3, 2);
    b.due(7, "shift", 1, 3, 1, 0, 'b', 14);
    b.lay(1, "5 -3");
    // a ring of one bit has itself ahead of it: the words are 0 0 and 0 1
    b.due(5 + 3, "decodeList", 7, 1, 0, 2);
    b.dueRow(2, "1");
    b.due(5 - 3, "decodeList", 7, 1, 1, 2);
    b.dueRow(2, "0");
    b.refused(NONE, "decodeList", 7, 1, 2, 2);
    says("decodeList: UnsupportedOperationException if the row does not fit the code");
    for (int many : new int[] {0, 1, 2, 3, 4, 5, 7, 35, 37, 38, 64}) {
      b.lay(3, many(many, "1"));
      b.refused(UNFIT, "decodeList", TAIL, 3, 0, 2);
    }
    for (int many : new int[] {0, 1, 2, 3, 5, 33, 34}) {
      b = allKinds();
      b.lay(3, many(many, "1"));
      b.refused(UNFIT, "decodeList", RING, 3, 3, 2);
    }
    says("decodeList: the exception that is listed first is thrown");
    b = allKinds();
    b.refused(INDEX, "decodeList", 7, 0, 4, 1);
    b.refused(INDEX, "decodeList", TWINS, 16, 4, 1);
    b.refused(INDEX, "decodeList", TAIL, 0, 4, 16);
    b.refused(ARGUMENT, "decodeList", TAIL, 0, 4, 1);
    b.refused(ARGUMENT, "decodeList", TAIL, 0, -1, 1);
    b.refused(UNFIT, "decodeList", TAIL, 0, 3, 1);
  }

  private static void early() {
    says("early: IndexOutOfBoundsException if there is no such code or shelf");
    Bench b = allKinds();
    b.lay(0, "1 -2 3 -4 5 -6").lay(15, "1 2 3 4 5 6");
    b.noCodes("early", Z, 0, 1);
    b.range(INDEX, 0, 15, "early", TAIL, Z, 1);
    says("early: IllegalArgumentException if it is no shift code with the end 't'");
    b.codes(ARGUMENT, "c", "early", Z, 0, 1);
    b.refused(ARGUMENT, "early", RING, 0, 1);
    says("early: the depth, 1 to 20");
    b.range(ARGUMENT, 1, 20, "early", TAIL, 0, Z);
    says("early: UnsupportedOperationException if the row does not fit the code");
    for (int many : new int[] {0, 1, 2, 3, 4, 5, 7, 35, 37, 38, 64}) {
      b.lay(3, many(many, "1"));
      b.refused(UNFIT, "early", TAIL, 3, 1);
    }
    b.lay(3, many(36, "1"));
    b.due(0, "early", TAIL, 3, 20);
    says("early: the exception that is listed first is thrown");
    b.refused(INDEX, "early", 7, 9, 0);
    b.refused(INDEX, "early", RING, 16, 0);
    b.refused(ARGUMENT, "early", RING, 9, 1);
    b.refused(ARGUMENT, "early", TAIL, 9, 0);
    b.refused(ARGUMENT, "early", TAIL, 9, 21);
    b.refused(UNFIT, "early", TAIL, 9, 20);
  }

  private static void decodeTwins() {
    says("decodeTwins: IndexOutOfBoundsException if there is no such code or shelf");
    Bench b = allKinds();
    b.lay(0, many(12, "5")).lay(15, many(12, "-5"));
    b.codes(ARGUMENT, "t", "decodeTwins", Z, 0, 1, 1);
    b.range(INDEX, 0, 15, "decodeTwins", TWINS, Z, 1, 1);
    b.range(INDEX, 0, 15, "decodeTwins", TWINS, 0, 1, Z);
    says("decodeTwins: the rounds, 1 to 20");
    b.range(ARGUMENT, 1, 20, "decodeTwins", TWINS, 0, Z, 1);
    says("decodeTwins: UnsupportedOperationException if the row does not fit the code");
    for (int many : new int[] {0, 4, 11, 13, 24, 64}) {
      b.lay(3, many(many, "1"));
      b.refused(UNFIT, "decodeTwins", TWINS, 3, 1, 1);
    }
    says("decodeTwins: the exception that is listed first is thrown");
    b.refused(INDEX, "decodeTwins", 7, 9, 0, 1);
    b.refused(INDEX, "decodeTwins", TAIL, 16, 0, 1);
    b.refused(INDEX, "decodeTwins", TWINS, 9, 0, 16);
    b.refused(ARGUMENT, "decodeTwins", TAIL, 9, 1, 1);
    b.refused(ARGUMENT, "decodeTwins", TWINS, 9, 0, 1);
    b.refused(ARGUMENT, "decodeTwins", TWINS, 9, 21, 1);
    b.refused(UNFIT, "decodeTwins", TWINS, 9, 20, 1);
    says("decodeTwins: rows of the least and of the greatest length fit");
    for (int length : new int[] {4, 20}) {
      Bench only = new Bench();
      only.due(0, "twins", length, 'r', 3, 0);
      only.lay(0, many(3 * length - 1, "1"));
      only.refused(UNFIT, "decodeTwins", 0, 0, 1, 1);
      only.does("put", 0, 1);
      only.due(1, "decodeTwins", 0, 0, 1, 1);
      only.dueRow(1, many(length, "0"));
      only.does("put", 0, 1);
      only.refused(UNFIT, "decodeTwins", 0, 0, 1, 1);
    }
  }

  private static void decodeGraph() {
    says("decodeGraph: IndexOutOfBoundsException if there is no such code or shelf");
    Bench b = allKinds();
    b.lay(0, "5 4 -1").lay(15, "1 1 1");
    b.codes(ARGUMENT, "l", "decodeGraph", Z, 0, 1, 'f', false, 1);
    b.range(INDEX, 0, 15, "decodeGraph", GRAPH, Z, 1, 'f', false, 1);
    b.range(INDEX, 0, 15, "decodeGraph", GRAPH, 0, 1, 'c', true, Z);
    says("decodeGraph: the rounds, 1 to 20");
    for (char law : "fc".toCharArray()) b.range(ARGUMENT, 1, 20, "decodeGraph", GRAPH, 0, Z, law, false, 1);
    says("decodeGraph: 'f' or 'c'");
    b.signs(ARGUMENT, "fc", "decodeGraph", GRAPH, 0, 1, Z, false, 1);
    says("decodeGraph: UnsupportedOperationException if the row does not fit the code");
    for (int many : new int[] {0, 1, 2, 4, 64}) {
      b.lay(3, many(many, "1"));
      b.refused(UNFIT, "decodeGraph", GRAPH, 3, 1, 'f', false, 1);
    }
    says("decodeGraph: NoSuchElementException if it gives up");
    b.due(7, "graph", 2, 1);
    b.due(1, "edge", 7, 0, 0);
    b.lay(3, "-32 1").lay(1, "77");
    b.refused(NONE, "decodeGraph", 7, 3, 1, 'f', false, 1);
    b.refused(NONE, "decodeGraph", 7, 3, 20, 'c', true, 3);
    b.lay(3, "-31 1");
    b.due(1, "decodeGraph", 7, 3, 1, 'f', false, 1);
    b.dueRow(1, "0 0");
    says("decodeGraph: the exception that is listed first is thrown");
    b.refused(INDEX, "decodeGraph", 8, 9, 0, 'x', false, 1);
    b.refused(INDEX, "decodeGraph", TAIL, 16, 0, 'x', false, 1);
    b.refused(INDEX, "decodeGraph", GRAPH, 9, 0, 'x', false, 16);
    b.refused(ARGUMENT, "decodeGraph", TAIL, 9, 1, 'f', false, 1);
    b.refused(ARGUMENT, "decodeGraph", GRAPH, 9, 0, 'f', false, 1);
    b.refused(ARGUMENT, "decodeGraph", GRAPH, 9, 21, 'f', false, 1);
    b.refused(ARGUMENT, "decodeGraph", GRAPH, 9, 1, 'x', false, 1);
    b.refused(UNFIT, "decodeGraph", GRAPH, 9, 20, 'c', false, 1);
    says("decodeGraph: the least and the greatest graph");
    Bench only = new Bench();
    only.due(0, "graph", 2, 1);
    only.due(1, "graph", 16, 8);
    for (int many : new int[] {1, 2, 3, 15, 16, 17}) {
      only.lay(0, many(many, "-1"));
      if (many == 2) only.due(1, "decodeGraph", 0, 0, 1, 'f', false, 1);
      else only.refused(UNFIT, "decodeGraph", 0, 0, 1, 'f', false, 1);
      if (many == 16) only.due(1, "decodeGraph", 1, 0, 1, 'f', false, 1);
      else only.refused(UNFIT, "decodeGraph", 1, 0, 1, 'f', false, 1);
    }
    only.dueRow(1, many(16, "1"));
  }

  private static void decodeSplits() {
    says("decodeSplits: IndexOutOfBoundsException if there is no such code or shelf");
    Bench b = allKinds();
    b.lay(0, "1 -2 3 -4").lay(15, "1 1 1 1");
    b.codes(ARGUMENT, "p", "decodeSplits", Z, 0, 1, 1);
    b.range(INDEX, 0, 15, "decodeSplits", SPLITS, Z, 1, 1);
    b.range(INDEX, 0, 15, "decodeSplits", SPLITS, 0, 1, Z);
    says("decodeSplits: the list, 1 to 4");
    b.range(ARGUMENT, 1, 4, "decodeSplits", SPLITS, 0, Z, 1);
    says("decodeSplits: UnsupportedOperationException if the row does not fit the code");
    for (int many : new int[] {0, 1, 2, 3, 5, 8, 64}) {
      b.lay(3, many(many, "1"));
      b.refused(UNFIT, "decodeSplits", SPLITS, 3, 1, 1);
    }
    says("decodeSplits: NoSuchElementException if it gives up");
    b.due(7, "splits", 1, 2, 8, true);
    b.lay(3, "-5 3").lay(1, "77");
    b.refused(NONE, "decodeSplits", 7, 3, 1, 1);
    b.refused(NONE, "decodeSplits", 7, 3, 2, 3);
    b.due(5, "decodeSplits", 7, 3, 3, 1);
    b.dueRow(1, "0");
    b.due(5, "decodeSplits", 7, 3, 4, 3);
    b.dueRow(3, "0");
    says("decodeSplits: the exception that is listed first is thrown");
    b.refused(INDEX, "decodeSplits", 8, 9, 0, 1);
    b.refused(INDEX, "decodeSplits", TAIL, 16, 0, 1);
    b.refused(INDEX, "decodeSplits", SPLITS, 9, 0, 16);
    b.refused(ARGUMENT, "decodeSplits", TAIL, 9, 1, 1);
    b.refused(ARGUMENT, "decodeSplits", SPLITS, 9, 0, 1);
    b.refused(ARGUMENT, "decodeSplits", SPLITS, 9, 5, 1);
    b.refused(UNFIT, "decodeSplits", SPLITS, 9, 4, 1);
    says("decodeSplits: a code has 2 to the power of s places");
    for (int power = 1; power <= 4; power++) {
      Bench only = new Bench();
      only.due(0, "splits", power, 1 << power, 8, false);
      for (int many = (1 << power) - 1; many <= (1 << power) + 1; many++) {
        only.lay(0, many(many, "-1"));
        if (many == 1 << power) only.due(0, "decodeSplits", 0, 0, 1, 1);
        else only.refused(UNFIT, "decodeSplits", 0, 0, 1, 1);
      }
      only.dueRow(1, many((1 << power) - 1, "0") + " 1");
    }
  }

  // ---- promises 23 to 27: what codes are made of

  private static void isOpen() {
    says("isOpen: IndexOutOfBoundsException if there is no such code; UnsupportedOperationException if it is no split code");
    Bench b = allKinds();
    b.codes(UNFIT, "p", "isOpen", Z, 0);
    says("isOpen: IllegalArgumentException if there is no such place");
    b.range(ARGUMENT, 0, 3, "isOpen", SPLITS, Z);
    b.due(7, "splits", 4, 16, 1, true);
    b.range(ARGUMENT, 0, 15, "isOpen", 7, Z);
    b.due(8, "splits", 1, 1, 15, false);
    b.range(ARGUMENT, 0, 1, "isOpen", 8, Z);
    b.due(false, "isOpen", 8, 0);
    b.due(true, "isOpen", 8, 1);
    says("isOpen: the exception that is listed first is thrown");
    b.refused(INDEX, "isOpen", 9, 99);
    b.refused(INDEX, "isOpen", -1, -1);
    b.refused(UNFIT, "isOpen", TAIL, 99);
    b.refused(UNFIT, "isOpen", GRAPH, -1);
  }

  private static void ringsOfFour() {
    says("ringsOfFour: IndexOutOfBoundsException if there is no such code; UnsupportedOperationException if it is no graph code");
    Bench b = allKinds();
    b.codes(UNFIT, "l", "ringsOfFour", Z);
    says("ringsOfFour: none without edges, or with one edge less than a ring has");
    b.due(0, "ringsOfFour", GRAPH);
    b.due(7, "graph", 2, 2);
    b.due(0, "ringsOfFour", 7);
    b.due(1, "edge", 7, 0, 0);
    b.due(2, "edge", 7, 0, 1);
    b.due(3, "edge", 7, 1, 0);
    b.due(0, "ringsOfFour", 7);
    b.due(4, "edge", 7, 1, 1);
    b.due(1, "ringsOfFour", 7);
    b.due(3, "edge", 7, 0, 0);
    b.due(0, "ringsOfFour", 7);
    says("ringsOfFour: all edges of the greatest graph make 28 pairs of checks with 120 pairs of bits");
    Bench full = new Bench();
    full.due(0, "graph", 16, 8);
    for (int i = 0; i < 128; i++) full.due(i + 1, "edge", 0, i % 8, i / 8);
    full.due(28 * 120, "ringsOfFour", 0);
  }

  private static void traps() {
    says("traps: IndexOutOfBoundsException if there is no such code; UnsupportedOperationException if it is no graph code");
    Bench b = allKinds();
    b.codes(UNFIT, "l", "traps", Z, 1, 1);
    says("traps: how many bits, 1 to 3");
    b.range(ARGUMENT, 1, 3, "traps", GRAPH, Z, 1);
    says("traps: how many checks, 0 to 8");
    b.range(ARGUMENT, 0, 8, "traps", GRAPH, 1, Z);
    says("traps: the exception that is listed first is thrown");
    b.refused(INDEX, "traps", 7, 0, 9);
    b.refused(UNFIT, "traps", TAIL, 0, 9);
    says("traps: how many sets of bits there are");
    b.due(0, "traps", GRAPH, 1, 0);
    b.due(3, "traps", GRAPH, 1, 1);
    b.due(3, "traps", GRAPH, 2, 0);
    b.due(0, "traps", GRAPH, 2, 1);
    b.due(0, "traps", GRAPH, 3, 0);
    b.due(1, "traps", GRAPH, 3, 1);
    says("traps: sets as great as all bits, and greater ones");
    b.due(7, "graph", 2, 8);
    for (int check = 0; check < 8; check++) b.due(check + 1, "edge", 7, check, 0);
    b.due(1, "traps", 7, 1, 8);
    b.due(1, "traps", 7, 1, 0);
    b.due(1, "traps", 7, 2, 8);
    b.due(0, "traps", 7, 2, 0);
    for (int odd = 0; odd <= 8; odd++) b.due(0, "traps", 7, 3, odd);
    says("traps: all sets of the greatest graph");
    b.due(8, "graph", 16, 8);
    b.due(16, "traps", 8, 1, 0);
    b.due(120, "traps", 8, 2, 0);
    b.due(560, "traps", 8, 3, 0);
  }

  private static void weight() {
    says("weight: IndexOutOfBoundsException if there is no such code; UnsupportedOperationException if it is of another kind");
    Bench b = allKinds();
    b.codes(UNFIT, "lpc", "weight", Z, 2, 0);
    says("weight: the length of messages, for a shift code 1 to 12");
    b.range(ARGUMENT, 1, 12, "weight", TAIL, Z, 5);
    says("weight: or below the memory for b");
    b.range(ARGUMENT, 2, 12, "weight", RING, Z, 2);
    Bench rings = new Bench();
    for (int memory = 1; memory <= 4; memory++) rings.due(memory - 1, "shift", memory, 3, 1, 0, 'b', 15);
    for (int memory = 1; memory <= 4; memory++) rings.range(ARGUMENT, memory, 12, "weight", memory - 1, Z, 0);
    says("weight: otherwise of no meaning");
    for (int z : new int[] {LEAST, -1, 0, 1, 12, 13, MOST}) {
      b.due(1, "weight", GRAPH, z, 0);
      b.due(1, "weight", SPLITS, z, 0);
    }
    says("weight: how many ones, which may be any number");
    for (int z : new int[] {LEAST, -1, 65, MOST}) {
      b.due(0, "weight", GRAPH, 1, z);
      b.due(0, "weight", SPLITS, 1, z);
      b.due(0, "weight", TAIL, 1, z);
    }
    says("weight: each message counts");
    b.due(3, "weight", GRAPH, 1, 2);
    b.due(0, "weight", GRAPH, 1, 3);
    b.due(1, "weight", TAIL, 1, 0);
    b.due(1, "weight", TAIL, 1, 5);
    says("weight: words are those of the holes as the code has them");
    Bench holed = new Bench();
    holed.lay(0, "1 1 0 0");
    holed.due(0, "shift", 1, 2, 2, 0, 't', 0);
    // of the steps 0 and 1 the first one is kept, in which the bit comes in
    holed.due(1, "weight", 0, 1, 0);
    holed.due(1, "weight", 0, 1, 2);
    holed.due(2, "weight", 0, 2, 0);
    holed.due(2, "weight", 0, 2, 2);
    says("weight: the exception that is listed first is thrown");
    b.refused(INDEX, "weight", 7, 0, 0);
    b.refused(UNFIT, "weight", ROOTS, 0, 0);
    b.refused(UNFIT, "weight", TWINS, 13, 0);
    b.refused(UNFIT, "weight", PRODUCT, 0, 0);
  }

  private static void weightLengths() {
    says("weight: has messages of more than 12 bits, or none");
    Bench b = new Bench();
    for (int i = 0; i < 4; i++) b.due(i, "graph", 12 + i, 8);
    b.due(1, "weight", 0, 0, 12);
    b.due(12, "weight", 0, 0, 11);
    for (int i = 1; i < 4; i++) {
      b.refused(UNFIT, "weight", i, 1, 0);
      for (int check = 0; check < i; check++) b.due(check + 1, "edge", i, check, check);
      b.due(1, "weight", i, 1, 12);
      b.due(i - 1, "edge", i, 0, 0);
      b.refused(UNFIT, "weight", i, 1, 12);
    }
    b.due(4, "graph", 2, 2);
    b.due(1, "edge", 4, 0, 0);
    b.due(1, "weight", 4, 0, 1);
    b.due(2, "edge", 4, 1, 1);
    b.refused(UNFIT, "weight", 4, 0, 0);
    for (int open = 12; open <= 14; open++) {
      Bench s = new Bench();
      s.due(0, "splits", 4, open, 8, false);
      s.due(1, "splits", 4, open, 8, true);
      if (open <= 12) s.due(1, "weight", 0, 0, 0);
      else s.refused(UNFIT, "weight", 0, 0, 0);
      if (open <= 13) s.due(1, "weight", 1, 0, 0);
      else s.refused(UNFIT, "weight", 1, 0, 0);
    }
    says("weight: a message of one bit");
    Bench one = new Bench();
    one.due(0, "splits", 4, 1, 8, false);
    one.due(1, "splits", 4, 2, 8, true);
    one.due(1, "weight", 0, 0, 0);
    one.due(1, "weight", 0, 0, 16);
    one.due(0, "weight", 0, 0, 15);
    one.due(1, "weight", 1, 0, 0);
    one.due(1, "weight", 1, 0, 8);
    says("weight: twelve bits of a shift code, 3 numbers for each of 16 steps");
    one.due(2, "shift", 4, 16, 16, 16, 't', 15);
    int ways = 1;
    for (int ones = 0; ones <= 12; ones++) {
      one.due(ways, "weight", 2, 12, 3 * ones);
      one.due(0, "weight", 2, 12, 3 * ones + 1);
      ways = ways * (12 - ones) / (ones + 1);
    }
  }

  private static void allows() {
    says("allows: IllegalArgumentException if there is no such bound");
    Bench b = new Bench();
    b.signs(ARGUMENT, "shg", "allows", Z, 7, 4, 3);
    for (char bound : "shg".toCharArray()) {
      says("allows: the length, 1 to 40");
      b.range(ARGUMENT, 1, 40, "allows", bound, Z, 1, 1);
      says("allows: the bits of the message, 1 to the length; the distance, 1 to the length");
      for (int length : new int[] {1, 2, 7, 39, 40}) {
        b.range(ARGUMENT, 1, length, "allows", bound, length, Z, 1);
        b.range(ARGUMENT, 1, length, "allows", bound, length, 1, Z);
      }
    }
    says("allows: the distance is at most the length less the message plus 1");
    for (int length : new int[] {1, 2, 15, 40}) {
      for (int message = 1; message <= length; message += 1 + length / 5) {
        int most = length - message + 1;
        b.taken("allows", 's', length, message, most);
        b.due(true, "allows", 's', length, message, most);
        if (most < length) b.due(false, "allows", 's', length, message, most + 1);
      }
    }
    says("allows: half of the distance less 1, cut");
    // 2 to the power of 4, times 1 + 7, is 2 to the power of 7: perfect; by 5 it is 1 + 7 + 21
    Bench h = new Bench();
    h.due(true, "allows", 'h', 7, 4, 3);
    h.due(true, "allows", 'h', 7, 4, 4);
    h.due(false, "allows", 'h', 7, 4, 5);
    h.due(false, "allows", 'h', 7, 5, 3);
    h.due(true, "allows", 'h', 7, 5, 2);
    h.due(true, "allows", 'h', 7, 7, 2);
    h.due(false, "allows", 'h', 7, 7, 3);
    h.due(true, "allows", 'h', 31, 26, 3);
    h.due(false, "allows", 'h', 32, 27, 3);
    h.due(true, "allows", 'h', 23, 12, 7);
    h.due(false, "allows", 'h', 23, 13, 7);
    h.due(false, "allows", 'h', 22, 12, 7);
    h.due(true, "allows", 'h', 5, 1, 5);
    h.due(false, "allows", 'h', 5, 2, 5);
    says("allows: sums beyond an int, and products beyond a long");
    h.due(true, "allows", 'h', 40, 1, 39);
    h.due(true, "allows", 'h', 40, 1, 40);
    h.due(false, "allows", 'h', 40, 2, 39);
    h.due(false, "allows", 'h', 40, 40, 40);
    h.due(true, "allows", 'h', 40, 40, 2);
    h.due(false, "allows", 'h', 40, 40, 3);
    says("allows: the length is at least the sum, divided by 2 to the power of i, rounded up");
    h.due(true, "allows", 'g', 4 + 2 + 1 + 1, 4, 4);
    h.due(false, "allows", 'g', 4 + 2 + 1, 4, 4);
    h.due(true, "allows", 'g', 5 + 3 + 2 + 1, 4, 5);
    h.due(false, "allows", 'g', 5 + 3 + 2, 4, 5);
    h.due(true, "allows", 'g', 1, 1, 1);
    h.due(true, "allows", 'g', 40, 1, 40);
    h.due(false, "allows", 'g', 40, 2, 40);
    h.due(true, "allows", 'g', 40, 40, 1);
    h.due(false, "allows", 'g', 40, 40, 2);
    h.due(true, "allows", 'g', 40, 39, 2);
    h.due(false, "allows", 'g', 40, 39, 3);
    says("allows: a number out of range");
    h.refused(ARGUMENT, "allows", 's', 0, 0, 0);
    h.refused(ARGUMENT, "allows", 's', 41, 41, 41);
    h.refused(ARGUMENT, "allows", 'x', 41, 41, 41);
  }

  // ---- promises 28 to 33: drops

  private static Bench source(String pieces) {
    Bench b = new Bench();
    b.lay(0, pieces);
    b.due(pieces.split(" ").length, "source", 0);
    return b;
  }

  private static void source() {
    says("source: IndexOutOfBoundsException if there is no such shelf");
    Bench b = new Bench();
    b.lay(0, "7").lay(15, "0 255");
    b.range(INDEX, 0, 15, "source", Z);
    says("source: UnsupportedOperationException if it has none, more than 12, or one out of range");
    b.refused(UNFIT, "source", 1);
    for (int many = 1; many <= 64; many++) {
      if (many > 15 && many % 7 != 1) continue;
      Bench only = new Bench();
      only.lay(2, many(many, "255"));
      if (many <= 12) only.due(many, "source", 2);
      else only.refused(UNFIT, "source", 2);
    }
    for (String wrong : new String[] {"256", "-1", "999", "-999"}) {
      for (String row : new String[] {wrong, "0 " + wrong, wrong + " 0", many(11, "0") + " " + wrong}) {
        b.lay(3, row);
        b.refused(UNFIT, "source", 3);
      }
    }
    b.lay(3, "0 255");
    b.due(2, "source", 3);
    says("source: drops that came are forgotten");
    Bench again = source("5");
    again.due(1, "come", 1, false);
    again.due(2, "come", 1, true);
    again.due(-1, "solved");
    again.due(1, "source", 0);
    again.due(0, "solved");
    again.due(0, "peeled");
    again.refused(NONE, "piece", 0);
    again.due(1, "come", 1, false);
    says("source: behind a refused one the source and its drops are as they were");
    again.refused(UNFIT, "source", 1);
    again.due(5, "piece", 0);
    says("source: takes the pieces, so that the shelf may be changed");
    again.due(1, "clear", 0);
    again.due(5, "drop", 1);
    says("source: a source with fewer pieces takes the place of one with more");
    Bench fewer = source("1 2 4");
    fewer.lay(0, "9");
    fewer.due(1, "source", 0);
    fewer.refused(INDEX, "piece", 1);
    fewer.due(9, "drop", 3);
  }

  private static void drop() {
    says("drop: the seed, 0 to 99999");
    Bench b = source("1 2 4");
    b.range(ARGUMENT, 0, 99999, "drop", Z);
    says("drop: NoSuchElementException if there is no source");
    Bench none = new Bench();
    none.refused(NONE, "drop", 0);
    none.refused(NONE, "drop", 99999);
    says("drop: the exception that is listed first is thrown");
    none.refused(ARGUMENT, "drop", -1);
    none.refused(ARGUMENT, "drop", 100000);
    says("drop: returns the value, and no drop comes by that");
    b.does("drop", 7);
    b.due(0, "solved");
    b.due(1, "come", 7, false);
  }

  private static void come() {
    says("come: the seed, 0 to 99999");
    Bench b = source("1 2 4");
    b.range(ARGUMENT, 0, 99999, "come", Z, false);
    b.range(ARGUMENT, 0, 99999, "come", Z, true);
    says("come: NoSuchElementException if there is no source");
    Bench none = new Bench();
    none.refused(NONE, "come", 0, false);
    none.refused(NONE, "come", 99999, true);
    says("come: the exception that is listed first is thrown");
    none.refused(ARGUMENT, "come", -1, false);
    none.refused(ARGUMENT, "come", 100000, false);
    says("come: IllegalStateException if 30 came");
    Bench full = source("200");
    for (int i = 1; i <= 29; i++) full.due(i, "come", i, false);
    full.due(30, "come", 99999, true);
    full.due(-1, "solved");
    full.refused(STATE, "come", 1, false);
    full.refused(STATE, "come", 1, true);
    full.refused(ARGUMENT, "come", -1, false);
    full.refused(ARGUMENT, "come", 100000, true);
    full.due(200, "drop", 5);
    full.due(1, "source", 0);
    full.due(1, "come", 1, false);
    says("come: whether its value comes with the lowest bit flipped");
    for (String piece : new String[] {"0", "1", "254", "255"}) {
      Bench one = source(piece);
      one.due(1, "come", 1, true);
      one.due(Integer.parseInt(piece) ^ 1, "piece", 0);
    }
  }

  private static void peeledAndSolved() {
    says("peeled: NoSuchElementException if there is no source");
    Bench none = new Bench();
    none.refused(NONE, "peeled");
    says("solved: NoSuchElementException if there is no source");
    none.refused(NONE, "solved");
    says("peeled: none without drops, all with enough");
    Bench b = source("1 2 4 8 16 32 64 128 255 254 253 252");
    b.due(0, "peeled");
    b.due(0, "solved");
    for (int i = 0; i < 30; i++) {
      b.does("come", 100 + i, false);
      b.does("peeled");
      b.does("solved");
    }
    b.due(12, "solved");
    says("solved: -1 if their values are against each other");
    Bench one = source("77");
    one.due(1, "come", 1, false);
    one.due(1, "solved");
    one.due(2, "come", 2, false);
    one.due(1, "solved");
    one.due(3, "come", 3, true);
    one.due(-1, "solved");
    one.due(1, "peeled");
    one.due(4, "come", 3, true);
    one.due(-1, "solved");
  }

  private static void piece() {
    says("piece: IndexOutOfBoundsException if there is no such piece");
    Bench none = new Bench();
    for (int z : new int[] {0, -1, 1, 11, 12, LEAST, MOST}) none.refused(INDEX, "piece", z);
    Bench one = source("77");
    one.due(1, "come", 1, false);
    one.range(INDEX, 0, 0, "piece", Z);
    Bench all = source("1 2 4 8 16 32 64 128 255 254 253 252");
    for (int i = 0; i < 30; i++) all.does("come", 100 + i, false);
    all.range(INDEX, 0, 11, "piece", Z);
    all.due(1, "piece", 0);
    all.due(252, "piece", 11);
    says("piece: NoSuchElementException if it is not told, or the values are against each other");
    Bench b = source("77 88");
    b.refused(NONE, "piece", 0);
    b.refused(NONE, "piece", 1);
    b.refused(INDEX, "piece", 2);
    one.due(2, "come", 1, true);
    one.refused(NONE, "piece", 0);
    one.refused(INDEX, "piece", 1);
    one.refused(INDEX, "piece", -1);
  }

  // ---- promises 34 to 36: frames

  private static void frame() {
    says("frame: IndexOutOfBoundsException if there is no such shelf, for either");
    Bench b = new Bench();
    b.lay(0, "1 0").lay(15, "1");
    b.range(INDEX, 0, 15, "frame", 0, Z, 1);
    b.range(INDEX, 0, 15, "frame", 0, 0, Z);
    says("frame: IllegalArgumentException if there is no such type");
    b.range(ARGUMENT, 0, 3, "frame", Z, 0, 1);
    says("frame: UnsupportedOperationException if the row is not of 1 to 28 bits");
    for (int many = 0; many <= 64; many++) {
      if (many > 30 && many % 7 != 1) continue;
      Bench only = new Bench();
      only.lay(2, many(many, "1"));
      if (many >= 1 && many <= 28) only.due(many + 36, "frame", 3, 2, 2);
      else only.refused(UNFIT, "frame", 3, 2, 2);
    }
    for (String wrong : new String[] {"2", "-1", "1 2", "-1 1", many(27, "0") + " 2"}) {
      b.lay(2, wrong);
      b.refused(UNFIT, "frame", 0, 2, 1);
    }
    says("frame: the exception that is listed first is thrown");
    b.refused(INDEX, "frame", 4, 16, 1);
    b.refused(INDEX, "frame", 4, 9, 16);
    b.refused(ARGUMENT, "frame", 4, 9, 1);
    b.refused(ARGUMENT, "frame", -1, 9, 1);
  }

  private static void sync() {
    says("sync: IndexOutOfBoundsException if there is no such shelf");
    Bench b = new Bench();
    b.lay(0, SYNC).lay(15, "0 " + SYNC);
    b.range(INDEX, 0, 15, "sync", Z, 0);
    says("sync: how many of its bits may be others, 0 to 3");
    b.range(ARGUMENT, 0, 3, "sync", 0, Z);
    says("sync: UnsupportedOperationException if the row is not of bits");
    for (String wrong : new String[] {"2 " + SYNC, SYNC + " 2", SYNC + " -1", "-1", "9"}) {
      b.lay(1, wrong);
      b.refused(UNFIT, "sync", 1, 0);
      b.refused(UNFIT, "sync", 1, 3);
    }
    says("sync: NoSuchElementException if there is none");
    b.lay(1, "");
    b.refused(NONE, "sync", 1, 3);
    b.lay(1, SYNC.substring(2));
    b.refused(NONE, "sync", 1, 3);
    b.lay(1, SYNC.substring(0, 13));
    b.refused(NONE, "sync", 1, 3);
    String[] far = {"0 1 1 0 0 1 0 1", "0 0 1 0 0 1 0 1", "0 0 0 0 0 1 0 1", "0 0 0 1 0 1 0 1"};
    for (int others = 1; others <= 4; others++) {
      b.lay(1, far[others - 1]);
      for (int most = 0; most <= 3; most++) {
        if (most >= others) b.due(0, "sync", 1, most);
        else b.refused(NONE, "sync", 1, most);
      }
    }
    says("sync: the first place where it is, up to the last one that has room");
    b.lay(1, many(56, "0") + " " + SYNC);
    b.due(56, "sync", 1, 0);
    b.lay(2, many(57, "0") + " " + SYNC.substring(0, 13));
    b.refused(NONE, "sync", 2, 0);
    b.lay(1, SYNC + " " + SYNC);
    b.due(0, "sync", 1, 0);
    says("sync: the exception that is listed first is thrown");
    b.lay(1, "2");
    b.refused(INDEX, "sync", 16, 4);
    b.refused(ARGUMENT, "sync", 1, 4);
    b.refused(ARGUMENT, "sync", 1, -1);
    b.refused(ARGUMENT, "sync", 9, 4);
  }

  private static void read() {
    says("read: IndexOutOfBoundsException if there is no such shelf or place");
    Bench b = new Bench();
    b.lay(0, "1 0 1");
    b.due(39, "frame", 2, 0, 1);
    b.due(39, "frame", 3, 0, 15);
    b.noShelves("read", Z, 0, 2);
    b.range(INDEX, 0, 15, "read", 1, 0, Z);
    b.taken("read", 15, 0, 2);
    b.refused(INDEX, "read", 3, 0, 2);
    b.beyond(INDEX, new int[] {-1, 39, 40, 64, LEAST, MOST}, "read", 1, Z, 2);
    says("read: UnsupportedOperationException if the row is not of bits");
    b.due(40, "put", 15, 2);
    b.refused(UNFIT, "read", 15, 0, 2);
    says("read: too short for its header");
    for (int place : new int[] {8, 38}) b.refused(UNFIT, "read", 1, place, 2);
    says("read: NoSuchElementException if the rest is wrong");
    b.due(2, "read", 1, 0, 2);
    b.dueRow(2, "1 0 1");
    for (int place = 32; place < 39; place++) {
      Bench wrong = new Bench();
      wrong.lay(0, "1 0 1");
      wrong.due(39, "frame", 2, 0, 1);
      flip(wrong, 1, place);
      wrong.refused(NONE, "read", 1, 0, 2);
    }
    says("read: the exception that is listed first is thrown");
    b.lay(4, "2");
    b.refused(INDEX, "read", 4, 1, 2);
    b.refused(INDEX, "read", 4, 0, 16);
    b.refused(UNFIT, "read", 4, 0, 2);
  }

  /** Lays the row of a shelf once more, with a bit flipped. */
  private static void flip(Bench b, int shelf, int place) {
    StringBuilder row = new StringBuilder();
    int size = (int) b.does("size", shelf);
    for (int i = 0; i < size; i++) {
      int z = (int) b.does("at", shelf, i);
      row.append(i == place ? 1 - z : z).append(' ');
    }
    b.lay(shelf, row.toString());
  }

  /** A header of the type 0 and a length, each bit three times. */
  private static String header(int length) {
    StringBuilder out = new StringBuilder(many(6, "0"));
    for (int i = 5; i >= 0; i--) out.append(' ').append(many(3, "" + (length >> i & 1)));
    return out.toString();
  }

  private static void readRooms() {
    says("read: too short for its header, or for what that tells");
    Bench b = new Bench();
    b.lay(0, SYNC + " " + header(1).substring(0, 45));
    b.refused(UNFIT, "read", 0, 0, 2);
    for (int length : new int[] {1, 2, 28}) {
      for (int room = 0; room <= length + 5 && room <= 32; room++) {
        if (room > 2 && room < length + 3) continue;
        b = new Bench();
        b.lay(0, SYNC + " " + header(length) + " " + many(room, "0"));
        if (room < length + 4) b.refused(UNFIT, "read", 0, 0, 2);
        else b.refused(NONE, "read", 0, 0, 2);
      }
    }
    says("read: the length 0");
    for (int room = 0; room <= 6; room++) {
      b = new Bench();
      b.lay(0, SYNC + " " + header(0) + " " + many(room, "0"));
      b.refused(room < 4 ? UNFIT : NONE, "read", 0, 0, 2);
    }
    says("read: or above 28, for which a row has no room, which is listed first");
    for (int length : new int[] {29, 32, 63}) {
      b = new Bench();
      b.lay(0, SYNC + " " + header(length) + " " + many(32, "0"));
      b.refused(UNFIT, "read", 0, 0, 2);
    }
    says("read: a frame of 1 bit and one of 28, at the first and at the last place where they have room");
    for (int length : new int[] {1, 28}) {
      for (int place : new int[] {0, 28 - length}) {
        b = new Bench();
        b.lay(0, many(length, "1"));
        b.due(length + 36, "frame", 1, 0, 1);
        StringBuilder row = new StringBuilder(many(place, "0"));
        for (int i = 0; i < length + 36; i++) row.append(' ').append(b.does("at", 1, i));
        b.lay(3, row.toString());
        b.due(1, "read", 3, place, 2);
        b.dueRow(2, many(length, "1"));
        b.due(1, "read", 3, place, 3);
        b.dueRow(3, many(length, "1"));
      }
    }
  }

  // ---- promises 37 to 41: asking again, rates

  private static void request() {
    says("request: IndexOutOfBoundsException if there is no such code or shelf");
    Bench b = allKinds();
    b.lay(0, "1 0 1 1").lay(14, "1");
    b.codes(UNFIT, "c", "request", Z, 0);
    b.noShelves("request", TAIL, Z);
    b.taken("request", TAIL, 0);
    says("request: UnsupportedOperationException if the row is no message with at most 12 bits");
    for (int many = 0; many <= 17; many++) {
      Bench only = allKinds();
      only.lay(1, many(many, "1"));
      if (many >= 1 && many <= 12) only.due(0, "request", TAIL, 1);
      else only.refused(UNFIT, "request", TAIL, 1);
      if (many >= 2 && many <= 12) only.does("request", RING, 1);
      else only.refused(UNFIT, "request", RING, 1);
    }
    for (String wrong : new String[] {"2", "-1", "1 0 2", "-1 1"}) {
      b.lay(1, wrong);
      b.refused(UNFIT, "request", TAIL, 1);
    }
    says("request: the longest word with the rest has 60 numbers");
    b.due(7, "shift", 4, 31, 21, 27, 't', 15);
    b.lay(1, many(12, "1"));
    b.taken("request", 7, 1);
    says("request: IllegalStateException if there are 8");
    for (int i = 0; i < 8; i++) b.due(i, "request", i % 2 == 0 ? TAIL : RING, 0);
    b.refused(STATE, "request", TAIL, 0);
    says("request: the exception that is listed first is thrown");
    b.refused(INDEX, "request", 8, 16);
    b.refused(INDEX, "request", ROOTS, 16);
    b.refused(UNFIT, "request", ROOTS, 0);
    b.refused(UNFIT, "request", TAIL, 9);
    says("request: 8 requests, be they accepted or not");
    b.due(true, "send", 0, 0, 'f', 0, 0);
    b.refused(STATE, "request", TAIL, 0);
  }

  private static Bench requests(int many) {
    Bench b = new Bench();
    b.due(0, "shift", 2, 7, 5, 0, 't', 15);
    b.lay(0, "1 0 1 1 0");
    for (int i = 0; i < many; i++) b.due(i, "request", 0, 0);
    return b;
  }

  /** A seed from one on for which a sending is refused, or accepted. */
  private static int seedFor(Bench b, boolean isAccepted, int request, int from) {
    for (int seed = from; seed < 100000; seed++) if (b.wouldAnswer("send", request, 0, 'f', 500, seed).equals(isAccepted)) return seed;
    throw new AssertionError("no seed");
  }

  private static void send() {
    says("send: IndexOutOfBoundsException if there is no such request");
    Bench b = requests(0);
    b.refused(INDEX, "send", 0, 0, 'f', 0, 0);
    b = requests(3);
    b.range(INDEX, 0, 2, "send", Z, 0, 'f', 0, 0);
    Bench all = requests(8);
    all.range(INDEX, 0, 7, "send", Z, 0, 'f', 0, 0);
    says("send: the version, 0 to 3");
    b.range(ARGUMENT, 0, 3, "send", 1, Z, 'f', 0, 0);
    says("send: of noise 'f', 'h', 'd' or 'b'");
    b.signs(ARGUMENT, "fhdb", "send", 1, 0, Z, 100, 0);
    says("send: the odds, 0 to 1000");
    b.range(ARGUMENT, 0, 1000, "send", 1, 0, 'f', Z, 0);
    says("send: the seed, 0 to 99999");
    b.range(ARGUMENT, 0, 99999, "send", 1, 0, 'f', 0, Z);
    says("send: UnsupportedOperationException if it was accepted");
    b.due(true, "send", 1, 0, 'f', 0, 0);
    b.refused(UNFIT, "send", 1, 0, 'f', 0, 0);
    b.refused(UNFIT, "send", 1, 3, 'b', 1000, 99999);
    says("send: the exception that is listed first is thrown");
    b.refused(INDEX, "send", 3, 4, 'x', -1, -1);
    b.refused(ARGUMENT, "send", 1, 4, 'f', 0, 0);
    b.refused(ARGUMENT, "send", 1, 0, 'x', 0, 0);
    b.refused(ARGUMENT, "send", 1, 0, 'f', 1001, 0);
    b.refused(ARGUMENT, "send", 1, 0, 'f', 0, 100000);
    says("send: IllegalStateException if it had 6 sendings");
    Bench six = requests(1);
    int seed = -1;
    for (int i = 0; i < 6; i++) {
      seed = seedFor(six, false, 0, seed + 1);
      six.due(false, "send", 0, 0, 'f', 500, seed);
      six.due(i + 1, "sendings", 0);
    }
    six.refused(STATE, "send", 0, 0, 'f', 0, 0);
    six.refused(STATE, "send", 0, 3, 'h', 1000, 99999);
    six.refused(ARGUMENT, "send", 0, 4, 'f', 0, 0);
    six.refused(ARGUMENT, "send", 0, 0, 'f', -1, 0);
    six.due(6, "sendings", 0);
    says("send: the sixth one may be accepted, and is told so then");
    Bench last = requests(1);
    seed = -1;
    for (int i = 0; i < 5; i++) {
      seed = seedFor(last, false, 0, seed + 1);
      last.due(false, "send", 0, 0, 'f', 500, seed);
    }
    last.due(true, "send", 0, 0, 'f', 500, seedFor(last, true, 0, 0));
    last.due(6, "sendings", 0);
    last.refused(UNFIT, "send", 0, 0, 'f', 0, 0);
  }

  private static void sendings() {
    says("sendings: IndexOutOfBoundsException if there is no such request");
    Bench b = requests(0);
    for (int z : new int[] {0, -1, 7, 8, LEAST, MOST}) b.refused(INDEX, "sendings", z);
    b = requests(1);
    b.range(INDEX, 0, 0, "sendings", Z);
    b = requests(8);
    b.range(INDEX, 0, 7, "sendings", Z);
    says("sendings: returns how many sendings a request had");
    b.due(0, "sendings", 7);
    b.due(true, "send", 7, 0, 'f', 0, 0);
    b.due(1, "sendings", 7);
    b.due(0, "sendings", 6);
  }

  private static void unseenAndRate() {
    says("unseen: returns how many requests were accepted with another message than was sent");
    Bench b = requests(8);
    b.due(0, "unseen");
    for (int i = 0; i < 8; i++) {
      b.due(true, "send", i, 0, 'h', 1000, i);
      b.due(i + 1, "unseen");
      says("rate: behind three accepted sendings in a row it becomes 1 more");
      b.due((i + 1) / 3, "rate");
    }
    b.due(1f, "acceptedShare");
    b.due(true, "isSound");
    Bench right = requests(8);
    for (int i = 0; i < 8; i++) right.due(true, "send", i, 0, 'f', 0, i);
    right.due(0, "unseen");
  }

  // ---- promises 42 to 45

  private static void compare() {
    says("compare: IndexOutOfBoundsException if there is no such code or shelf");
    Bench b = allKinds();
    b.lay(0, "5 4 -1").lay(15, "1 1 1").lay(1, "1 -2 3 -4").lay(14, "1 -2 3 4");
    b.range(INDEX, 0, 15, "compare", GRAPH, Z, 'f', 100, 0);
    b.noShelves("compare", SPLITS, Z, 'f', 100, 0);
    says("compare: IllegalArgumentException if it is of another kind");
    b.codes(ARGUMENT, "lp", "compare", Z, 0, 'f', 100, 0);
    for (int i = 0; i < 2; i++) {
      int code = i == 0 ? GRAPH : SPLITS;
      says("compare: of noise 'f', 'h', 'd' or 'b'");
      b.signs(ARGUMENT, "fhdb", "compare", code, i, Z, 100, 0);
      says("compare: the odds, 0 to 1000");
      b.range(ARGUMENT, 0, 1000, "compare", code, i, 'f', Z, 0);
      says("compare: the first of 10 seeds, 0 to 99999");
      b.range(ARGUMENT, 0, 99999, "compare", code, i, 'f', 100, Z);
    }
    says("compare: UnsupportedOperationException if the row does not fit the code");
    for (int many : new int[] {0, 1, 2, 3, 4, 5, 64}) {
      b.lay(3, many(many, "1"));
      if (many != 3) b.refused(UNFIT, "compare", GRAPH, 3, 'f', 100, 0);
      if (many != 4) b.refused(UNFIT, "compare", SPLITS, 3, 'f', 100, 0);
    }
    says("compare: the exception that is listed first is thrown");
    b.refused(INDEX, "compare", 7, 16, 'x', -1, -1);
    b.refused(INDEX, "compare", TAIL, 16, 'x', -1, -1);
    b.refused(ARGUMENT, "compare", TAIL, 9, 'f', 0, 0);
    b.refused(ARGUMENT, "compare", GRAPH, 9, 'x', 0, 0);
    b.refused(ARGUMENT, "compare", GRAPH, 9, 'f', 1001, 0);
    b.refused(ARGUMENT, "compare", GRAPH, 9, 'f', 0, 100000);
    b.refused(UNFIT, "compare", GRAPH, 9, 'f', 0, 0);
    says("compare: the last first seed has ten seeds, too");
    b.due(7, "splits", 1, 2, 8, true);
    b.lay(4, "-5 3");
    b.due(99999, "compare", 7, 4, 'f', 0, 99999);
    b.due(0, "compare", 7, 4, 'f', 0, 0);
    b.dueRow(4, "-5 3");
  }

  private static void acceptedShare() {
    says("acceptedShare: ArithmeticException if there were none");
    Bench b = requests(0);
    b.refused(ARITHMETIC, "acceptedShare");
    b = requests(8);
    b.refused(ARITHMETIC, "acceptedShare");
    says("acceptedShare: their number divided by that of all, both converted to float");
    b.due(false, "send", 0, 0, 'f', 500, seedFor(b, false, 0, 0));
    b.due(0f, "acceptedShare");
    b.due(true, "send", 1, 0, 'f', 0, 0);
    b.due(0.5f, "acceptedShare");
    b.due(true, "send", 2, 0, 'f', 0, 0);
    b.due(2f / 3f, "acceptedShare");
    b.refused(UNFIT, "send", 2, 0, 'f', 0, 0);
    b.due(2f / 3f, "acceptedShare");
  }

  private static void mean() {
    says("mean: IndexOutOfBoundsException if there is no such shelf");
    Bench b = new Bench();
    b.lay(0, "-999").lay(15, "1 2");
    b.range(INDEX, 0, 15, "mean", Z);
    says("mean: ArithmeticException if it is empty");
    b.refused(ARITHMETIC, "mean", 1);
    b.due(1, "put", 1, 0);
    b.due(0.0, "mean", 1);
    b.due(1, "clear", 1);
    b.refused(ARITHMETIC, "mean", 1);
    says("mean: the sum divided by how many, both converted to double");
    b.due(-999.0, "mean", 0);
    b.due(1.5, "mean", 15);
    b.lay(2, many(64, "999")).lay(3, many(64, "-999")).lay(4, "1 0 0");
    b.due(999.0, "mean", 2);
    b.due(-999.0, "mean", 3);
    b.due(1.0 / 3.0, "mean", 4);
  }

  private static void isSound() {
    says("isSound: checks the bench, be it empty or full");
    Bench b = new Bench();
    b.due(true, "isSound");
    Bench full = allKinds();
    for (int i = 7; i < 10; i++) full.due(i, "splits", i - 6, 1 << (i - 6), 15, true);
    full.lay(0, "1 0 1 1 0");
    for (int i = 0; i < 8; i++) full.due(i, "request", i % 2 == 0 ? TAIL : RING, 0);
    for (int i = 0; i < 16; i++) full.does("send", i / 2, i % 4, 'f', 200, i);
    full.due(true, "isSound");
    full.due(5, "source", 0);
    full.due(true, "isSound");
    for (int i = 0; i < 30; i++) full.due(i + 1, "come", i, false);
    full.due(true, "isSound");
    says("isSound: if these are not against each other");
    Bench against = source("7");
    against.due(1, "come", 1, false);
    against.due(true, "isSound");
    against.due(2, "come", 1, true);
    against.due(-1, "solved");
    against.due(true, "isSound");
  }
}
