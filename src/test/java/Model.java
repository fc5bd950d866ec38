import java.util.ArrayList;
import java.util.Arrays;
import java.util.HashSet;
import java.util.List;
import java.util.NoSuchElementException;
import java.util.Set;
import java.util.TreeSet;

/**
 * The document said once more, in the plainest way: all messages, all rows of inputs and all sets are tried.
 * Nothing is shared with the class, so that a slip in one of the two shows as a difference.
 */
final class Model {
  final List<List<Integer>> shelves = new ArrayList<>();
  final List<Coded> codes = new ArrayList<>();
  final List<Asked> asked = new ArrayList<>();
  List<Integer> pieces = null;
  final List<Set<Integer>> cameSets = new ArrayList<>();
  final List<Integer> cameValues = new ArrayList<>();
  final List<Boolean> allSendings = new ArrayList<>();
  int rateNow = 0;
  int sinceTurn = 0;
  int unseenNow = 0;

  static final class Coded {
    char kind;
    int elements, message, checks;
    int memory;
    int[] generators;
    boolean isRing;
    List<Integer> holes;
    int[] order;
    boolean[][] edges;
    int power, loss;
    boolean isChecked;
    List<Integer> open;
  }

  static final class Asked {
    Coded code;
    List<Integer> sent;
    int[] known = new int[60];
    int sendings;
    boolean isAccepted;
  }

  Model() {
    for (int i = 0; i < 16; i++) shelves.add(new ArrayList<>());
  }

  // ---- what every call looks at

  private List<Integer> shelf(int i) {
    if (i < 0 || i > 15) throw new IndexOutOfBoundsException();
    return shelves.get(i);
  }

  private Coded code(int i) {
    if (i < 0 || i >= codes.size()) throw new IndexOutOfBoundsException();
    return codes.get(i);
  }

  private static void need(boolean isIn) {
    if (!isIn) throw new IllegalArgumentException();
  }

  private static void can(boolean isFit) {
    if (!isFit) throw new UnsupportedOperationException();
  }

  private static void found(boolean isThere) {
    if (!isThere) throw new NoSuchElementException();
  }

  private static boolean in(long z, long least, long most) {
    return least <= z && z <= most;
  }

  private static boolean bits(List<Integer> row) {
    return row.stream().allMatch(z -> z == 0 || z == 1);
  }

  private void lay(int shelf, List<Integer> row) {
    shelves.set(shelf, new ArrayList<>(row));
  }

  private int add(Coded c) {
    if (codes.size() == 10) throw new IllegalStateException();
    codes.add(c);
    return codes.size() - 1;
  }

  /** The first draws of a seed. */
  static int[] draws(int seed, int many) {
    int[] told = new int[many];
    java.math.BigInteger z = java.math.BigInteger.valueOf(seed);
    for (int i = 0; i < many; i++) {
      z = z.multiply(java.math.BigInteger.valueOf(1103515245)).add(java.math.BigInteger.valueOf(12345));
      z = z.mod(java.math.BigInteger.ONE.shiftLeft(31));
      told[i] = z.shiftRight(16).intValue();
    }
    return told;
  }

  static List<Integer> withNoise(List<Integer> row, char kind, int odds, int hole, int seed) {
    int[] told = draws(seed, row.size());
    List<Integer> out = new ArrayList<>(row);
    boolean isOfBits = bits(row);
    int used = 0;
    int i = 0;
    while (i < row.size()) {
      boolean isHit = told[used++] % 1000 < odds;
      int many = isHit && kind == 'b' ? 4 : 1;
      if (isHit) {
        for (int j = i; j < i + many && j < row.size(); j++) {
          int z = row.get(j);
          int flipped = isOfBits ? (z == 1 ? 0 : 1) : 0 - z;
          int halved = z >= 0 ? z / 2 : -((-z) / 2);
          out.set(j, kind == 'h' ? hole : kind == 'd' ? halved : flipped);
        }
      }
      i += many;
    }
    return out;
  }

  private static boolean noisy(char kind, int odds, int seed) {
    return "fhdb".indexOf(kind) >= 0 && in(odds, 0, 1000) && in(seed, 0, 99999);
  }

  // ---- shelves

  int put(int shelf, int number) {
    List<Integer> row = shelf(shelf);
    need(in(number, -999, 999));
    if (row.size() == 64) throw new IllegalStateException();
    row.add(number);
    return row.size();
  }

  int clear(int shelf) {
    int had = shelf(shelf).size();
    shelf(shelf).clear();
    return had;
  }

  int size(int shelf) {
    return shelf(shelf).size();
  }

  int at(int shelf, int index) {
    List<Integer> row = shelf(shelf);
    if (!in(index, 0, row.size() - 1)) throw new IndexOutOfBoundsException();
    return row.get(index);
  }

  int soften(int from, int strength, int to) {
    List<Integer> row = shelf(from);
    shelf(to);
    need(in(strength, 1, 99));
    can(bits(row));
    lay(to, row.stream().map(z -> z == 1 ? -strength : strength).toList());
    return row.size();
  }

  int noise(int shelf, char kind, int odds, int hole, int seed) {
    List<Integer> row = shelf(shelf);
    need(noisy(kind, odds, seed) && in(hole, -999, 999));
    List<Integer> out = withNoise(row, kind, odds, hole, seed);
    int others = 0;
    for (int i = 0; i < out.size(); i++) if (!out.get(i).equals(row.get(i))) others++;
    lay(shelf, out);
    return others;
  }

  double mean(int shelf) {
    List<Integer> row = shelf(shelf);
    if (row.isEmpty()) throw new ArithmeticException();
    return (double) row.stream().mapToInt(z -> z).sum() / (double) row.size();
  }

  // ---- codes

  int roots(int elements, int message, int checks) {
    need(elements == 8 || elements == 16);
    need(in(checks, 2, 6) && message >= 1 && in((long) message + checks, 0, elements - 1));
    Coded c = new Coded();
    c.kind = 'r';
    c.elements = elements;
    c.message = message;
    c.checks = checks;
    return add(c);
  }

  int shift(int memory, int first, int second, int third, char end, int holes) {
    List<Integer> row = shelf(holes);
    need(in(memory, 1, 4));
    int top = (int) Math.pow(2, memory + 1) - 1;
    need(in(first, 1, top) && in(second, 1, top) && in(third, 0, top));
    need(end == 't' || end == 'b');
    Coded c = new Coded();
    c.kind = 'c';
    c.memory = memory;
    c.generators = third == 0 ? new int[] {first, second} : new int[] {first, second, third};
    c.isRing = end == 'b';
    if (!row.isEmpty()) need(bits(row) && row.size() <= 12 && row.size() % c.generators.length == 0 && row.contains(1));
    c.holes = row.isEmpty() ? List.of(1) : new ArrayList<>(row);
    return add(c);
  }

  int twins(int length, char law, int a, int b) {
    need(in(length, 4, 20) && "srd".indexOf(law) >= 0 && in(a, 1, 99) && in(b, 0, 99999));
    if (law == 's') for (int d = 2; d <= length; d++) need(!(length % d == 0 && a % d == 0));
    if (law == 'r') need(a <= length);
    Coded c = new Coded();
    c.kind = 't';
    c.order = new int[length];
    List<Integer> places = new ArrayList<>();
    if (law == 'r') {
      for (int column = 0; column < a; column++) for (int i = 0; i < length; i++) if (i % a == column) places.add(i);
    } else {
      for (int i = 0; i < length; i++) places.add(law == 's' ? (int) (((long) a * i + b) % length) : i);
      int[] told = draws(b, length);
      if (law == 'd') for (int i = length - 1; i >= 1; i--) java.util.Collections.swap(places, i, told[length - 1 - i] % (i + 1));
    }
    for (int i = 0; i < length; i++) c.order[i] = places.get(i);
    return add(c);
  }

  int graph(int bits, int checks) {
    need(in(bits, 2, 16) && in(checks, 1, 8));
    Coded c = new Coded();
    c.kind = 'l';
    c.edges = new boolean[checks][bits];
    return add(c);
  }

  int edge(int code, int check, int bit) {
    Coded c = code(code);
    can(c.kind == 'l');
    need(in(check, 0, c.edges.length - 1) && in(bit, 0, c.edges[0].length - 1));
    c.edges[check][bit] = !c.edges[check][bit];
    int many = 0;
    for (boolean[] row : c.edges) for (boolean is : row) if (is) many++;
    return many;
  }

  int splits(int power, int open, int loss, boolean isChecked) {
    need(in(power, 1, 4) && in(loss, 1, 15) && in(open, isChecked ? 2 : 1, 1 << power));
    Coded c = new Coded();
    c.kind = 'p';
    c.power = power;
    c.isChecked = isChecked;
    List<Integer> places = new ArrayList<>();
    for (int i = 0; i < 1 << power; i++) places.add(i);
    places.sort((i, j) -> {
      int byNumber = Long.compare(splitNumber(j, power, loss), splitNumber(i, power, loss));
      return byNumber != 0 ? byNumber : Integer.compare(i, j);
    });
    c.open = new ArrayList<>(places.subList(places.size() - open, places.size()));
    c.open.sort(null);
    return add(c);
  }

  private static long splitNumber(int place, int power, int loss) {
    long z = loss * 4096L;
    for (int i = power; i > 0; i--) {
      boolean isOne = place / (1 << (i - 1)) % 2 == 1;
      long q = (z * z) >> 16;
      z = isOne ? q : z + z - q;
    }
    return z;
  }

  int product() {
    Coded c = new Coded();
    c.kind = 'h';
    return add(c);
  }

  char kindOf(int code) {
    return code(code).kind;
  }

  // ---- the field of codes by roots

  static int times(int x, int y, int elements) {
    int sum = 0;
    int modulus = elements == 8 ? 0b1011 : 0b10011;
    for (int i = 0; i < 4; i++) if ((y >> i & 1) == 1) sum ^= x << i;
    for (int i = 7; i >= 0; i--) if ((1 << i) >= elements && (sum >> i & 1) == 1) {
      int top = elements == 8 ? 3 : 4;
      sum ^= modulus << (i - top);
    }
    return sum;
  }

  static int power(int x, int n, int elements) {
    int z = 1;
    for (int i = 0; i < n; i++) z = times(z, x, elements);
    return z;
  }

  static boolean isRootWord(List<Integer> word, int checks, int elements) {
    for (int j = 1; j <= checks; j++) {
      int sum = 0;
      for (int i = 0; i < word.size(); i++) sum ^= times(word.get(i), power(2, j * (word.size() - 1 - i), elements), elements);
      if (sum != 0) return false;
    }
    return true;
  }

  /** The word that is like a row outside of some places, by elimination, or null. */
  private static List<Integer> fillPlaces(List<Integer> row, List<Integer> places, int checks, int elements) {
    int n = row.size();
    int[][] m = new int[checks][places.size() + 1];
    for (int j = 0; j < checks; j++) {
      for (int i = 0; i < n; i++) {
        int factor = power(2, (j + 1) * (n - 1 - i), elements);
        int column = places.indexOf(i);
        if (column >= 0) m[j][column] = factor;
        else m[j][places.size()] ^= times(row.get(i), factor, elements);
      }
    }
    int rank = 0;
    for (int column = 0; column < places.size(); column++) {
      int pivot = rank;
      while (pivot < checks && m[pivot][column] == 0) pivot++;
      if (pivot == checks) return null;
      int[] swap = m[pivot];
      m[pivot] = m[rank];
      m[rank] = swap;
      int inverse = power(m[rank][column], elements - 2, elements);
      for (int i = 0; i <= places.size(); i++) m[rank][i] = times(m[rank][i], inverse, elements);
      for (int j = 0; j < checks; j++) {
        int factor = m[j][column];
        if (j != rank && factor != 0) for (int i = 0; i <= places.size(); i++) m[j][i] ^= times(factor, m[rank][i], elements);
      }
      rank++;
    }
    for (int j = rank; j < checks; j++) if (m[j][places.size()] != 0) return null;
    List<Integer> word = new ArrayList<>(row);
    for (int i = 0; i < places.size(); i++) word.set(places.get(i), m[i][places.size()]);
    return word;
  }

  /** Tries all sets of places with errors behind the holes. */
  private static List<Integer> mendRoots(Coded c, List<Integer> row, List<Integer> places, int first, int errors) {
    if (errors == 0) return fillPlaces(row, places, c.checks, c.elements);
    for (int i = first; i < row.size(); i++) {
      if (row.get(i) == -1) continue;
      List<Integer> more = new ArrayList<>(places);
      more.add(i);
      List<Integer> word = mendRoots(c, row, more, i + 1, errors - 1);
      if (word != null) return word;
    }
    return null;
  }

  // ---- shift codes

  private static int steps(Coded c, int length) {
    return c.isRing ? length : length + c.memory;
  }

  private static boolean isShiftLength(Coded c, int length) {
    return in(length, c.isRing ? c.memory : 1, 16);
  }

  private static List<Integer> outputs(Coded c, List<Integer> message) {
    List<Integer> out = new ArrayList<>();
    int n = message.size();
    for (int t = 0; t < steps(c, n); t++) {
      for (int g : c.generators) {
        int sum = 0;
        for (int back = 0; back <= c.memory; back++) {
          int from = t - back;
          int bit;
          if (from < 0) bit = c.isRing ? message.get(n + from) : 0;
          else bit = from < n ? message.get(from) : 0;
          if ((g >> (c.memory - back) & 1) == 1) sum += bit;
        }
        out.add(sum % 2);
      }
    }
    return out;
  }

  private static List<Boolean> kept(Coded c, int length, int version) {
    List<Integer> turned = new ArrayList<>(c.holes);
    for (int i = 0; i < version * c.generators.length; i++) turned.add(turned.remove(0));
    List<Boolean> out = new ArrayList<>();
    for (int i = 0; i < steps(c, length) * c.generators.length; i++) out.add(turned.get(i % turned.size()) == 1);
    return out;
  }

  private static List<Integer> shiftWord(Coded c, List<Integer> message) {
    List<Integer> all = outputs(c, message);
    List<Boolean> kept = kept(c, message.size(), 0);
    List<Integer> word = new ArrayList<>();
    for (int i = 0; i < all.size(); i++) if (kept.get(i)) word.add(all.get(i));
    return word;
  }

  private static int shiftWordLength(Coded c, int length) {
    return (int) kept(c, length, 0).stream().filter(is -> is).count();
  }

  private static int shiftLengthFor(Coded c, int size) {
    for (int i = 1; i <= 16; i++) if (isShiftLength(c, i) && shiftWordLength(c, i) == size) return i;
    return -1;
  }

  static List<Integer> bitsOf(int z, int many) {
    List<Integer> out = new ArrayList<>();
    for (int i = many - 1; i >= 0; i--) out.add(z >> i & 1);
    return out;
  }

  /** The outputs by what is known, 0 where an output is not kept. */
  private static int[] spread(Coded c, List<Integer> row, int length) {
    List<Boolean> kept = kept(c, length, 0);
    int[] out = new int[60];
    int next = 0;
    for (int i = 0; i < kept.size(); i++) if (kept.get(i)) out[i] = row.get(next++);
    return out;
  }

  /** The first messages with their metrics, all having been tried in the order of their bits. */
  private static List<long[]> firstMessages(Coded c, int[] known, int length, int many) {
    List<long[]> first = new ArrayList<>();
    long[] masks = new long[length];
    int total = steps(c, length) * c.generators.length;
    for (int i = 0; i < length; i++) {
      List<Integer> unit = outputs(c, bitsOf(1 << i, length));
      for (int j = 0; j < total; j++) if (unit.get(j) == 1) masks[i] |= 1L << j;
    }
    for (int message = 0; message < 1 << length; message++) {
      long word = 0;
      for (int i = 0; i < length; i++) if ((message >> i & 1) == 1) word ^= masks[i];
      long metric = 0;
      for (int j = 0; j < total; j++) metric += (word >> j & 1) == 1 ? -known[j] : known[j];
      int place = first.size();
      while (place > 0 && first.get(place - 1)[0] < metric) place--;
      if (place < many) first.add(place, new long[] {metric, message});
      if (first.size() > many) first.remove(many);
    }
    return first;
  }

  private static final class Walk {
    Coded c;
    int[] known;
    int length;
    long[] best;
    List<List<Integer>> rows = new ArrayList<>();

    /** Goes through all rows of inputs, 0 ahead of 1, and keeps the first best one of each length. */
    void go(List<Integer> inputs, long metric) {
      int t = inputs.size();
      if (t > 0 && (rows.get(t) == null || metric > best[t])) {
        best[t] = metric;
        rows.set(t, new ArrayList<>(inputs));
      }
      if (t == steps(c, length)) return;
      for (int bit = 0; bit <= (t < length ? 1 : 0); bit++) {
        inputs.add(bit);
        long more = metric;
        for (int g = 0; g < c.generators.length; g++) {
          int sum = 0;
          for (int back = 0; back <= c.memory && back <= t; back++) {
            if ((c.generators[g] >> (c.memory - back) & 1) == 1) sum += inputs.get(t - back);
          }
          int number = known[t * c.generators.length + g];
          more += sum % 2 == 1 ? -number : number;
        }
        go(inputs, more);
        inputs.remove(t);
      }
    }
  }

  // ---- words

  private static List<Integer> rsc(List<Integer> inputs) {
    List<Integer> checks = new ArrayList<>();
    int newer = 0;
    int elder = 0;
    for (int u : inputs) {
      int w = (u + newer + elder) % 2;
      checks.add((w + elder) % 2);
      elder = newer;
      newer = w;
    }
    return checks;
  }

  private static List<Integer> ordered(int[] order, List<Integer> row) {
    List<Integer> out = new ArrayList<>();
    for (int place : order) out.add(row.get(place));
    return out;
  }

  private static List<Boolean> column(Coded c, int bit) {
    List<Boolean> out = new ArrayList<>();
    for (boolean[] row : c.edges) out.add(row[bit]);
    return out;
  }

  /** The free bits: those whose column is among all sums of the bound ones ahead. */
  private static List<Integer> freeBits(Coded c) {
    Set<List<Boolean>> sums = new HashSet<>();
    sums.add(new ArrayList<>(java.util.Collections.nCopies(c.edges.length, false)));
    List<Integer> free = new ArrayList<>();
    for (int bit = 0; bit < c.edges[0].length; bit++) {
      List<Boolean> column = column(c, bit);
      if (sums.contains(column)) {
        free.add(bit);
        continue;
      }
      Set<List<Boolean>> more = new HashSet<>(sums);
      for (List<Boolean> sum : sums) {
        List<Boolean> next = new ArrayList<>();
        for (int i = 0; i < sum.size(); i++) next.add(sum.get(i) != column.get(i));
        more.add(next);
      }
      sums = more;
    }
    return free;
  }

  private static boolean isGraphWord(Coded c, List<Integer> word) {
    for (boolean[] row : c.edges) {
      int sum = 0;
      for (int i = 0; i < row.length; i++) if (row[i]) sum += word.get(i);
      if (sum % 2 == 1) return false;
    }
    return true;
  }

  private static List<Integer> splitWord(int power, List<Integer> places) {
    List<Integer> word = new ArrayList<>();
    for (int j = 0; j < 1 << power; j++) {
      int sum = 0;
      for (int i = 0; i < 1 << power; i++) if ((j & ~i) == 0) sum += places.get(i);
      word.add(sum % 2);
    }
    return word;
  }

  private static int splitLength(Coded c) {
    return c.isChecked ? c.open.size() - 1 : c.open.size();
  }

  private static List<Integer> splitPlaces(Coded c, List<Integer> message) {
    List<Integer> bits = new ArrayList<>(message);
    if (c.isChecked) bits.add(message.stream().mapToInt(z -> z).sum() % 2);
    List<Integer> places = new ArrayList<>();
    int next = 0;
    for (int i = 0; i < 1 << c.power; i++) places.add(c.open.contains(i) ? bits.get(next++) : 0);
    return places;
  }

  private static int[] hamming(int d3, int d5, int d6, int d7) {
    return new int[] {(d3 + d5 + d7) % 2, (d3 + d6 + d7) % 2, d3, (d5 + d6 + d7) % 2, d5, d6, d7};
  }

  private static List<Integer> productWord(List<Integer> message) {
    int[] at = {2, 4, 5, 6};
    int[][] grid = new int[7][7];
    for (int i = 0; i < 4; i++) grid[at[i]] = hamming(message.get(4 * i), message.get(4 * i + 1), message.get(4 * i + 2), message.get(4 * i + 3));
    for (int j = 0; j < 7; j++) {
      int[] column = hamming(grid[2][j], grid[4][j], grid[5][j], grid[6][j]);
      for (int i = 0; i < 7; i++) grid[i][j] = column[i];
    }
    List<Integer> word = new ArrayList<>();
    for (int[] row : grid) for (int z : row) word.add(z);
    return word;
  }

  private static boolean isMessage(Coded c, List<Integer> row) {
    return switch (c.kind) {
      case 'r' -> row.size() == c.message && row.stream().allMatch(z -> in(z, 0, c.elements - 1));
      case 'c' -> bits(row) && isShiftLength(c, row.size());
      case 't' -> bits(row) && row.size() == c.order.length;
      case 'l' -> bits(row) && !row.isEmpty() && row.size() == freeBits(c).size();
      case 'p' -> bits(row) && row.size() == splitLength(c);
      default -> bits(row) && row.size() == 16;
    };
  }

  private static List<Integer> word(Coded c, List<Integer> message) {
    switch (c.kind) {
      case 'r': {
        List<Integer> row = new ArrayList<>(message);
        List<Integer> places = new ArrayList<>();
        for (int i = 0; i < c.checks; i++) {
          places.add(row.size());
          row.add(-1);
        }
        return fillPlaces(row, places, c.checks, c.elements);
      }
      case 'c':
        return shiftWord(c, message);
      case 't': {
        List<Integer> first = rsc(message);
        List<Integer> second = rsc(ordered(c.order, message));
        List<Integer> word = new ArrayList<>();
        for (int i = 0; i < message.size(); i++) word.addAll(List.of(message.get(i), first.get(i), second.get(i)));
        return word;
      }
      case 'l': {
        List<Integer> free = freeBits(c);
        for (int z = 0; z < 1 << c.edges[0].length; z++) {
          List<Integer> word = bitsOf(z, c.edges[0].length);
          if (ordered(free.stream().mapToInt(i -> i).toArray(), word).equals(message) && isGraphWord(c, word)) return word;
        }
        throw new AssertionError("no word");
      }
      case 'p':
        return splitWord(c.power, splitPlaces(c, message));
      default:
        return productWord(message);
    }
  }

  int encode(int code, int from, int to) {
    Coded c = code(code);
    List<Integer> row = shelf(from);
    shelf(to);
    can(isMessage(c, row));
    List<Integer> word = word(c, row);
    can(word.size() <= 64);
    lay(to, word);
    return word.size();
  }

  // ---- decoding

  private static boolean fits(Coded c, List<Integer> row) {
    return switch (c.kind) {
      case 'r' -> row.size() == c.message + c.checks && row.stream().allMatch(z -> in(z, -1, c.elements - 1));
      case 'c' -> shiftLengthFor(c, row.size()) > 0;
      case 't' -> row.size() == 3 * c.order.length;
      case 'l' -> row.size() == c.edges[0].length;
      case 'p' -> row.size() == 1 << c.power;
      default -> row.size() == 49 && bits(row);
    };
  }

  long decode(int code, int from, int to) {
    Coded c = code(code);
    List<Integer> row = shelf(from);
    shelf(to);
    need(c.kind != 't' && c.kind != 'l');
    can(fits(c, row));
    if (c.kind == 'c') return decodeList(code, from, 0, to);
    if (c.kind == 'p') return decodeSplits(code, from, 1, to);
    return c.kind == 'r' ? decodeRoots(c, row, to) : decodeProduct(row, to);
  }

  private long decodeRoots(Coded c, List<Integer> row, int to) {
    List<Integer> holes = new ArrayList<>();
    for (int i = 0; i < row.size(); i++) if (row.get(i) == -1) holes.add(i);
    for (int e = 0; 2 * e + holes.size() <= c.checks; e++) {
      List<Integer> word = mendRoots(c, row, holes, 0, e);
      if (word == null) continue;
      lay(to, word.subList(0, c.message));
      return e;
    }
    throw new NoSuchElementException();
  }

  private long decodeProduct(List<Integer> row, int to) {
    int[][] grid = new int[8][8];
    for (int i = 0; i < 49; i++) grid[i / 7 + 1][i % 7 + 1] = row.get(i);
    int goes = 0;
    boolean isAny = true;
    while (isAny && goes < 10) {
      isAny = false;
      goes++;
      for (int half = 0; half < 2; half++) {
        for (int line = 1; line <= 7; line++) {
          int place = oddPlace(grid, line, half == 0);
          if (place == 0) continue;
          isAny = true;
          if (half == 0) grid[line][place] = 1 - grid[line][place];
          else grid[place][line] = 1 - grid[place][line];
        }
      }
    }
    for (int line = 1; line <= 7; line++) found(oddPlace(grid, line, true) == 0 && oddPlace(grid, line, false) == 0);
    List<Integer> message = new ArrayList<>();
    for (int i : new int[] {3, 5, 6, 7}) for (int j : new int[] {3, 5, 6, 7}) message.add(grid[i][j]);
    lay(to, message);
    return goes;
  }

  private static int oddPlace(int[][] grid, int line, boolean isRow) {
    int place = 0;
    for (int power : new int[] {1, 2, 4}) {
      int sum = 0;
      for (int i = 1; i <= 7; i++) if ((i & power) != 0) sum += isRow ? grid[line][i] : grid[i][line];
      if (sum % 2 == 1) place += power;
    }
    return place;
  }

  long decodeList(int code, int from, int place, int to) {
    Coded c = code(code);
    List<Integer> row = shelf(from);
    shelf(to);
    need(c.kind == 'c' && in(place, 0, 3));
    can(fits(c, row));
    int length = shiftLengthFor(c, row.size());
    List<long[]> first = firstMessages(c, spread(c, row, length), length, 4);
    found(place < first.size());
    lay(to, bitsOf((int) first.get(place)[1], length));
    return first.get(place)[0];
  }

  int early(int code, int from, int depth) {
    Coded c = code(code);
    List<Integer> row = shelf(from);
    need(c.kind == 'c' && !c.isRing && in(depth, 1, 20));
    can(fits(c, row));
    int length = shiftLengthFor(c, row.size());
    Walk walk = new Walk();
    walk.c = c;
    walk.known = spread(c, row, length);
    walk.length = length;
    int all = steps(c, length);
    walk.best = new long[all + 1];
    for (int i = 0; i <= all; i++) walk.rows.add(null);
    walk.go(new ArrayList<>(), 0);
    List<Integer> best = bitsOf((int) firstMessages(c, walk.known, length, 1).get(0)[1], length);
    List<Integer> told = new ArrayList<>();
    for (int step = 0; step < all; step++) if (step >= depth) told.add(walk.rows.get(step + 1).get(step - depth));
    int unlike = 0;
    for (int i = 0; i < length && i < told.size(); i++) if (!told.get(i).equals(best.get(i))) unlike++;
    return unlike;
  }

  /** The result of each step of a register, all rows of inputs having been tried. */
  private static int[] register(int[] se, int[] p) {
    int n = se.length;
    int[] zero = new int[n];
    int[] one = new int[n];
    Arrays.fill(zero, Integer.MIN_VALUE);
    Arrays.fill(one, Integer.MIN_VALUE);
    for (int inputs = 0; inputs < 1 << n; inputs++) {
      int sum = 0;
      int newer = 0;
      int elder = 0;
      for (int i = 0; i < n; i++) {
        int u = inputs >> i & 1;
        int w = u ^ newer ^ elder;
        sum += u == 1 ? -se[i] : se[i];
        sum += (w ^ elder) == 1 ? -p[i] : p[i];
        elder = newer;
        newer = w;
      }
      for (int i = 0; i < n; i++) {
        if ((inputs >> i & 1) == 1) one[i] = Math.max(one[i], sum);
        else zero[i] = Math.max(zero[i], sum);
      }
    }
    int[] d = new int[n];
    for (int i = 0; i < n; i++) {
      if ((zero[i] - one[i]) % 2 != 0) throw new AssertionError("half");
      d[i] = (zero[i] - one[i]) / 2;
    }
    return d;
  }

  private static int toTell(int d, int se) {
    int z = (d - se) * 3;
    int cut = z >= 0 ? z / 4 : -((-z) / 4);
    return cut > 99 ? 99 : cut < -99 ? -99 : cut;
  }

  int decodeTwins(int code, int from, int rounds, int to) {
    Coded c = code(code);
    List<Integer> row = shelf(from);
    shelf(to);
    need(c.kind == 't' && in(rounds, 1, 20));
    can(fits(c, row));
    int n = c.order.length;
    int[] fromSecond = new int[n];
    for (int round = 1;; round++) {
      int[] se = new int[n];
      int[] p = new int[n];
      for (int i = 0; i < n; i++) {
        se[i] = row.get(3 * i) + fromSecond[i];
        p[i] = row.get(3 * i + 1);
      }
      int[] d1 = register(se, p);
      int[] se2 = new int[n];
      int[] p2 = new int[n];
      for (int i = 0; i < n; i++) {
        int place = c.order[i];
        se2[i] = row.get(3 * place) + toTell(d1[place], se[place]);
        p2[i] = row.get(3 * i + 2);
      }
      int[] d2 = register(se2, p2);
      List<Integer> message = new ArrayList<>(java.util.Collections.nCopies(n, 0));
      boolean isSame = true;
      for (int i = 0; i < n; i++) {
        int place = c.order[i];
        fromSecond[place] = toTell(d2[i], se2[i]);
        message.set(place, d2[i] < 0 ? 1 : 0);
        if (d2[i] < 0 != d1[place] < 0) isSame = false;
      }
      if (isSame || round == rounds) {
        lay(to, message);
        return round;
      }
    }
  }

  /** The word of so many rounds with those done as its last number, or null. */
  private static List<Integer> settle(Coded c, List<Integer> row, int rounds, char law, boolean isDamped) {
    int checks = c.edges.length;
    int n = row.size();
    int[][] r = new int[checks][n];
    for (int round = 1; round <= rounds; round++) {
      int[][] old = new int[checks][];
      for (int k = 0; k < checks; k++) old[k] = r[k].clone();
      for (int k = 0; k < checks; k++) {
        int[][] by = law == 'f' ? old : r;
        int[] fresh = r[k].clone();
        for (int b = 0; b < n; b++) {
          if (!c.edges[k][b]) continue;
          int least = 31;
          int sign = 1;
          for (int other = 0; other < n; other++) {
            if (other == b || !c.edges[k][other]) continue;
            int q = row.get(other);
            for (int k2 = 0; k2 < checks; k2++) if (k2 != k && c.edges[k2][other]) q += by[k2][other];
            if (q > 31) q = 31;
            if (q < -31) q = -31;
            least = Math.min(least, Math.abs(q));
            sign *= Integer.signum(q);
          }
          int message = sign * least;
          int sum = old[k][b] + message;
          fresh[b] = isDamped ? (sum >= 0 ? sum / 2 : -((-sum) / 2)) : message;
        }
        r[k] = fresh;
      }
      List<Integer> word = new ArrayList<>();
      for (int b = 0; b < n; b++) {
        int sum = row.get(b);
        for (int k = 0; k < checks; k++) if (c.edges[k][b]) sum += r[k][b];
        word.add(sum < 0 ? 1 : 0);
      }
      if (isGraphWord(c, word)) {
        word.add(round);
        return word;
      }
    }
    return null;
  }

  int decodeGraph(int code, int from, int rounds, char law, boolean isDamped, int to) {
    Coded c = code(code);
    List<Integer> row = shelf(from);
    shelf(to);
    need(c.kind == 'l' && in(rounds, 1, 20) && (law == 'f' || law == 'c'));
    can(fits(c, row));
    List<Integer> word = settle(c, row, rounds, law, isDamped);
    found(word != null);
    int done = word.remove(word.size() - 1);
    lay(to, word);
    return done;
  }

  /** The number left for the place behind those told, by the halves of the row. */
  private static long leftFor(List<Long> row, List<Integer> told) {
    int size = row.size();
    if (size == 1) return row.get(0);
    int half = size / 2;
    int power = Integer.numberOfTrailingZeros(half);
    List<Long> next = new ArrayList<>();
    boolean isFirst = told.size() < half;
    List<Integer> word = isFirst ? null : splitWord(power, told.subList(0, half));
    for (int i = 0; i < half; i++) {
      long a = row.get(i);
      long b = row.get(i + half);
      if (isFirst) next.add(Long.signum(a) * Long.signum(b) * Math.min(Math.abs(a), Math.abs(b)));
      else next.add(word.get(i) == 1 ? b - a : b + a);
    }
    return leftFor(next, isFirst ? told : told.subList(half, told.size()));
  }

  private static final class Tried {
    List<Integer> places = new ArrayList<>();
    long costs = 0;
  }

  /** All rows of places that stay to the end, in their order. */
  private static List<Tried> tryAll(Coded c, List<Integer> row, int list) {
    List<Long> numbers = new ArrayList<>();
    for (int z : row) numbers.add((long) z);
    List<Tried> here = new ArrayList<>();
    here.add(new Tried());
    for (int place = 0; place < row.size(); place++) {
      List<Tried> next = new ArrayList<>();
      for (Tried tried : here) {
        long l = leftFor(numbers, tried.places);
        for (int bit = 0; bit <= (c.open.contains(place) ? 1 : 0); bit++) {
          Tried more = new Tried();
          more.places.addAll(tried.places);
          more.places.add(bit);
          more.costs = tried.costs + ((bit == 1 && l > 0) || (bit == 0 && l < 0) ? Math.abs(l) : 0);
          next.add(more);
        }
      }
      next.sort((x, y) -> x.costs != y.costs ? Long.compare(x.costs, y.costs) : x.places.toString().compareTo(y.places.toString()));
      here = next.subList(0, Math.min(list, next.size()));
    }
    return here;
  }

  private static Tried firstRight(Coded c, List<Integer> row, int list) {
    for (Tried tried : tryAll(c, row, list)) {
      List<Integer> message = ordered(c.open.subList(0, splitLength(c)).stream().mapToInt(i -> i).toArray(), tried.places);
      if (splitPlaces(c, message).equals(tried.places)) return tried;
    }
    return null;
  }

  long decodeSplits(int code, int from, int list, int to) {
    Coded c = code(code);
    List<Integer> row = shelf(from);
    shelf(to);
    need(c.kind == 'p' && in(list, 1, 4));
    can(fits(c, row));
    Tried first = firstRight(c, row, list);
    found(first != null);
    lay(to, ordered(c.open.subList(0, splitLength(c)).stream().mapToInt(i -> i).toArray(), first.places));
    return first.costs;
  }

  int compare(int code, int shelf, char kind, int odds, int seed) {
    Coded c = code(code);
    List<Integer> row = shelf(shelf);
    need((c.kind == 'l' || c.kind == 'p') && noisy(kind, odds, seed));
    can(fits(c, row));
    for (int s = seed; s < seed + 10; s++) {
      List<Integer> heard = withNoise(row, kind, odds, 0, s);
      List<Integer> one;
      List<Integer> other;
      if (c.kind == 'l') {
        one = settle(c, heard, 10, 'f', false);
        other = settle(c, heard, 10, 'c', false);
        if (one != null) one = one.subList(0, row.size());
        if (other != null) other = other.subList(0, row.size());
      } else {
        Tried a = firstRight(c, heard, 1);
        Tried b = firstRight(c, heard, 4);
        one = a == null ? null : splitWord(c.power, a.places);
        other = b == null ? null : splitWord(c.power, b.places);
      }
      if (one == null ? other != null : !one.equals(other)) return s;
    }
    return -1;
  }

  // ---- what codes are made of

  boolean isOpen(int code, int place) {
    Coded c = code(code);
    can(c.kind == 'p');
    need(in(place, 0, (1 << c.power) - 1));
    return c.open.contains(place);
  }

  int ringsOfFour(int code) {
    Coded c = code(code);
    can(c.kind == 'l');
    int rings = 0;
    for (int i = 0; i < c.edges.length; i++) for (int j = i + 1; j < c.edges.length; j++) {
      for (int a = 0; a < c.edges[0].length; a++) for (int b = a + 1; b < c.edges[0].length; b++) {
        if (c.edges[i][a] && c.edges[i][b] && c.edges[j][a] && c.edges[j][b]) rings++;
      }
    }
    return rings;
  }

  int traps(int code, int bits, int odd) {
    Coded c = code(code);
    can(c.kind == 'l');
    need(in(bits, 1, 3) && in(odd, 0, 8));
    int sets = 0;
    for (int z = 0; z < 1 << c.edges[0].length; z++) {
      if (Integer.bitCount(z) != bits) continue;
      int odds = 0;
      for (boolean[] row : c.edges) {
        int sum = 0;
        for (int i = 0; i < row.length; i++) if (row[i] && (z >> i & 1) == 1) sum++;
        odds += sum % 2;
      }
      if (odds == odd) sets++;
    }
    return sets;
  }

  int weight(int code, int message, int ones) {
    Coded c = code(code);
    can(c.kind == 'l' || c.kind == 'p' || c.kind == 'c');
    int length = message;
    if (c.kind == 'l') length = freeBits(c).size();
    if (c.kind == 'p') length = splitLength(c);
    if (c.kind != 'c') can(in(length, 1, 12));
    need(in(length, 1, 12) && (c.kind != 'c' || isShiftLength(c, length)));
    int words = 0;
    if (c.kind == 'l') {
      for (int z = 0; z < 1 << c.edges[0].length; z++) {
        if (Integer.bitCount(z) == ones && isGraphWord(c, bitsOf(z, c.edges[0].length))) words++;
      }
      return words;
    }
    for (int z = 0; z < 1 << length; z++) {
      if (word(c, bitsOf(z, length)).stream().mapToInt(i -> i).sum() == ones) words++;
    }
    return words;
  }

  boolean allows(char bound, int length, int message, int distance) {
    need("shg".indexOf(bound) >= 0 && in(length, 1, 40) && in(message, 1, length) && in(distance, 1, length));
    if (bound == 's') return distance <= length - message + 1;
    if (bound == 'g') {
      java.math.BigInteger sum = java.math.BigInteger.ZERO;
      for (int i = 0; i < message; i++) {
        java.math.BigInteger[] parts = java.math.BigInteger.valueOf(distance).divideAndRemainder(java.math.BigInteger.TWO.pow(i));
        sum = sum.add(parts[0]).add(parts[1].signum() > 0 ? java.math.BigInteger.ONE : java.math.BigInteger.ZERO);
      }
      return sum.compareTo(java.math.BigInteger.valueOf(length)) <= 0;
    }
    java.math.BigInteger sum = java.math.BigInteger.ZERO;
    for (int i = 0; i <= (distance - 1) / 2; i++) sum = sum.add(choose(length, i));
    return java.math.BigInteger.TWO.pow(message).multiply(sum).compareTo(java.math.BigInteger.TWO.pow(length)) <= 0;
  }

  private static java.math.BigInteger choose(int n, int k) {
    java.math.BigInteger z = java.math.BigInteger.ONE;
    for (int i = 0; i < k; i++) z = z.multiply(java.math.BigInteger.valueOf(n - i));
    for (int i = 2; i <= k; i++) z = z.divide(java.math.BigInteger.valueOf(i));
    return z;
  }

  // ---- drops

  int source(int shelf) {
    List<Integer> row = shelf(shelf);
    can(in(row.size(), 1, 12) && row.stream().allMatch(z -> in(z, 0, 255)));
    pieces = new ArrayList<>(row);
    cameSets.clear();
    cameValues.clear();
    return row.size();
  }

  private Set<Integer> drawn(int seed) {
    int[] told = draws(seed, 3000);
    int[] degrees = {1, 2, 2, 2, 2, 2, 2, 2, 3, 3, 3, 3, 4, 4, 5, 99};
    int degree = Math.min(degrees[told[0] % 16], pieces.size());
    Set<Integer> set = new TreeSet<>();
    for (int i = 1; set.size() < degree; i++) set.add(told[i] % pieces.size());
    return set;
  }

  private int valueOf(Set<Integer> set) {
    int value = 0;
    for (int i : set) value ^= pieces.get(i);
    return value;
  }

  int drop(int seed) {
    need(in(seed, 0, 99999));
    found(pieces != null);
    return valueOf(drawn(seed));
  }

  int come(int seed, boolean isFlipped) {
    need(in(seed, 0, 99999));
    found(pieces != null);
    if (cameSets.size() == 30) throw new IllegalStateException();
    Set<Integer> set = drawn(seed);
    cameSets.add(set);
    cameValues.add(valueOf(set) ^ (isFlipped ? 1 : 0));
    return cameSets.size();
  }

  int peeled() {
    found(pieces != null);
    Set<Integer> known = new HashSet<>();
    boolean isMore = true;
    while (isMore) {
      isMore = false;
      for (Set<Integer> set : cameSets) {
        Set<Integer> open = new HashSet<>(set);
        open.removeAll(known);
        if (open.size() != 1) continue;
        known.addAll(open);
        isMore = true;
        break;
      }
    }
    return known.size();
  }

  /** The pieces that all drops tell, -1 where one is not told, or null if these are against each other. */
  private int[] tellAll() {
    int n = pieces.size();
    int[] told = new int[n];
    for (int plane = 0; plane < 8; plane++) {
      int always = -1;
      int never = -1;
      boolean isAny = false;
      for (int x = 0; x < 1 << n; x++) {
        boolean isRight = true;
        for (int d = 0; d < cameSets.size() && isRight; d++) {
          int sum = 0;
          for (int i : cameSets.get(d)) sum += x >> i & 1;
          isRight = sum % 2 == (cameValues.get(d) >> plane & 1);
        }
        if (!isRight) continue;
        isAny = true;
        always &= x;
        never &= ~x;
      }
      if (!isAny) return null;
      for (int i = 0; i < n; i++) {
        if ((always >> i & 1) == 0 && (never >> i & 1) == 0) told[i] = -1;
        else if (told[i] >= 0 && (always >> i & 1) == 1) told[i] |= 1 << plane;
      }
    }
    return told;
  }

  int solved() {
    found(pieces != null);
    int[] told = tellAll();
    return told == null ? -1 : (int) Arrays.stream(told).filter(z -> z >= 0).count();
  }

  int piece(int piece) {
    if (pieces == null || !in(piece, 0, pieces.size() - 1)) throw new IndexOutOfBoundsException();
    int[] told = tellAll();
    found(told != null && told[piece] >= 0);
    return told[piece];
  }

  // ---- frames

  /** The rest by division: the row with four bits 0 behind it, modulo x*x*x*x + x + 1. */
  static List<Integer> rest(List<Integer> row) {
    List<Integer> work = new ArrayList<>(row);
    work.addAll(List.of(0, 0, 0, 0));
    for (int i = 0; i < row.size(); i++) {
      if (work.get(i) == 0) continue;
      for (int j : new int[] {0, 3, 4}) work.set(i + j, 1 - work.get(i + j));
    }
    return new ArrayList<>(work.subList(row.size(), row.size() + 4));
  }

  private static List<Integer> masked(List<Integer> row) {
    int[] told = draws(77, row.size());
    List<Integer> out = new ArrayList<>();
    for (int i = 0; i < row.size(); i++) out.add(row.get(i) ^ told[i] & 1);
    return out;
  }

  int frame(int type, int from, int to) {
    List<Integer> row = shelf(from);
    shelf(to);
    need(in(type, 0, 3));
    can(bits(row) && in(row.size(), 1, 28));
    List<Integer> out = new ArrayList<>(List.of(1, 1, 1, 0, 0, 1, 0, 1));
    List<Integer> header = bitsOf(type, 2);
    header.addAll(bitsOf(row.size(), 6));
    for (int bit : header) out.addAll(List.of(bit, bit, bit));
    out.addAll(masked(row));
    out.addAll(rest(row));
    lay(to, out);
    return out.size();
  }

  int sync(int shelf, int most) {
    List<Integer> row = shelf(shelf);
    need(in(most, 0, 3));
    can(bits(row));
    List<Integer> word = List.of(1, 1, 1, 0, 0, 1, 0, 1);
    for (int place = 0; place <= row.size() - 8; place++) {
      int others = 0;
      for (int i = 0; i < 8; i++) if (!row.get(place + i).equals(word.get(i))) others++;
      if (others <= most) return place;
    }
    throw new NoSuchElementException();
  }

  int read(int from, int place, int to) {
    List<Integer> row = shelf(from);
    shelf(to);
    if (!in(place, 0, row.size() - 1)) throw new IndexOutOfBoundsException();
    can(bits(row));
    can(place + 32 <= row.size());
    int header = 0;
    for (int i = 0; i < 8; i++) {
      int at = place + 8 + 3 * i;
      header = 2 * header + (row.get(at) + row.get(at + 1) + row.get(at + 2) > 1 ? 1 : 0);
    }
    int length = header % 64;
    can(place + 32 + length + 4 <= row.size());
    found(in(length, 1, 28));
    List<Integer> message = masked(row.subList(place + 32, place + 32 + length));
    found(rest(message).equals(row.subList(place + 32 + length, place + 36 + length)));
    lay(to, message);
    return header / 64;
  }

  // ---- asking again

  int request(int code, int shelf) {
    Coded c = code(code);
    List<Integer> row = shelf(shelf);
    can(c.kind == 'c' && isMessage(c, row) && row.size() <= 12 && shiftWordLength(c, row.size() + 4) <= 64);
    if (asked.size() == 8) throw new IllegalStateException();
    Asked a = new Asked();
    a.code = c;
    a.sent = new ArrayList<>(row);
    a.sent.addAll(rest(row));
    asked.add(a);
    return asked.size() - 1;
  }

  boolean send(int request, int version, char kind, int odds, int seed) {
    if (!in(request, 0, asked.size() - 1)) throw new IndexOutOfBoundsException();
    Asked a = asked.get(request);
    need(in(version, 0, 3) && noisy(kind, odds, seed));
    can(!a.isAccepted);
    if (a.sendings == 6) throw new IllegalStateException();
    List<Boolean> kept = kept(a.code, a.sent.size(), version);
    List<Integer> all = outputs(a.code, a.sent);
    List<Integer> row = new ArrayList<>();
    for (int i = 0; i < all.size(); i++) if (kept.get(i)) row.add(all.get(i) == 1 ? -9 : 9);
    row = withNoise(row, kind, odds, 0, seed);
    int next = 0;
    for (int i = 0; i < all.size(); i++) if (kept.get(i)) a.known[i] += row.get(next++);
    a.sendings++;
    List<Integer> best = bitsOf((int) firstMessages(a.code, a.known, a.sent.size(), 1).get(0)[1], a.sent.size());
    int n = best.size() - 4;
    a.isAccepted = rest(best.subList(0, n)).equals(best.subList(n, n + 4));
    if (a.isAccepted && !best.equals(a.sent)) unseenNow++;
    allSendings.add(a.isAccepted);
    follow();
    return a.isAccepted;
  }

  /** Looks at the last sendings since the counting began. */
  private void follow() {
    List<Boolean> since = allSendings.subList(sinceTurn, allSendings.size());
    int n = since.size();
    if (n >= 3 && since.get(n - 1) && since.get(n - 2) && since.get(n - 3)) {
      rateNow = Math.min(3, rateNow + 1);
      sinceTurn = allSendings.size();
    } else if (n >= 2 && !since.get(n - 1) && !since.get(n - 2)) {
      rateNow = Math.max(0, rateNow - 1);
      sinceTurn = allSendings.size();
    }
  }

  int sendings(int request) {
    if (!in(request, 0, asked.size() - 1)) throw new IndexOutOfBoundsException();
    return asked.get(request).sendings;
  }

  int unseen() {
    return unseenNow;
  }

  int rate() {
    return rateNow;
  }

  float acceptedShare() {
    if (allSendings.isEmpty()) throw new ArithmeticException();
    return (float) allSendings.stream().filter(is -> is).count() / (float) allSendings.size();
  }

  boolean isSound() {
    return true;
  }
}
