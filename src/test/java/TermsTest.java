import java.util.ArrayList;
import java.util.List;

/**
 * The edges that the document's terms name: what is empty and what is full, what goes round and begins again, the last
 * number within and the first one beyond. What a test is about is said in the words of the document.
 */
public final class TermsTest {
  private static final Class<?> INDEX = Bench.INDEX;
  private static final Class<?> UNFIT = Bench.UNFIT;
  private static final Class<?> NONE = Bench.NONE;
  private static final Class<?> STATE = Bench.STATE;

  private static final String SYNC = "1 1 1 0 0 1 0 1";

  public static void main(String[] args) {
    calls();
    rows();
    bitsAndSoftRows();
    takesThePlace();
    draws();
    rootsOfAllMultiples();
    rootsNearWords();
    rootsAtTheirLimit();
    registers();
    rings();
    holesAgainAndAgain();
    leastLengths();
    metrics();
    orderOfMessages();
    earlyAnswers();
    earlyRows();
    twinOrders();
    twinRegisters();
    twinRounds();
    freeBits();
    graphLimits();
    graphRounds();
    graphLaws();
    openPlaces();
    splitRows();
    splitLists();
    products();
    degrees();
    keptDrops();
    peeling();
    noiseOdds();
    noiseKinds();
    bursts();
    frames();
    rests();
    majorities();
    requestLengths();
    versions();
    sums();
    unseenErrors();
    rates();
    seedsCompared();
    comparedGraphs();
    Check.end();
  }

  private static void says(String sentence) {
    Bench.says(sentence);
  }

  private static String many(int many, String number) {
    return (number + " ").repeat(many).trim();
  }

  private static List<Integer> numbers(String row) {
    List<Integer> out = new ArrayList<>();
    for (String z : row.trim().split("\\s+")) if (!z.isEmpty()) out.add(Integer.parseInt(z));
    return out;
  }

  private static String told(List<Integer> row) {
    return row.toString().replaceAll("[\\[\\],]", "");
  }

  private static String bits(int z, int many) {
    StringBuilder out = new StringBuilder();
    for (int i = many - 1; i >= 0; i--) out.append(z >> i & 1).append(' ');
    return out.toString().trim();
  }

  // ---- an object, its shelves, its draws

  private static void calls() {
    says("An object is used for at most 512 calls after it has been made");
    Bench b = new Bench();
    b.lay(0, "1 0 1 1");
    b.due(0, "shift", 2, 7, 5, 0, 't', 15);
    b.due(12, "encode", 0, 0, 1);
    // bits speak for 0, or for neither, so that the word of 0 alone is the best one
    for (int i = 8; i <= 512; i++) b.due(7, "decode", 0, 1, 2);
    Bench other = new Bench();
    for (int i = 1; i <= 256; i++) {
      other.due(1, "put", 0, i);
      other.due(1, "clear", 0);
    }
  }

  private static void rows() {
    says("There are the shelves 0 to 15, each with a row, empty at first");
    Bench b = new Bench();
    for (int i = 0; i < 16; i++) b.due(0, "size", i);
    for (int i = 0; i < 16; i++) b.due(1, "put", i, 100 + i);
    for (int i = 15; i >= 0; i--) b.due(2, "put", i, -i);
    for (int i = 0; i < 16; i++) b.dueRow(i, (100 + i) + " " + -i);
    says("a row of at most 64 whole numbers");
    b = new Bench();
    b.lay(0, many(64, "1"));
    b.due(64, "soften", 0, 99, 1);
    b.dueRow(1, many(64, "-99"));
    b.refused(STATE, "put", 1, 0);
    b.due(64, "noise", 1, 'f', 1000, 0, 0);
    b.dueRow(1, many(64, "99"));
    says("a frame of 28 bits fills a row");
    b.lay(2, many(28, "1"));
    b.due(64, "frame", 0, 2, 3);
    b.refused(STATE, "put", 3, 0);
    b.due(0, "read", 3, 0, 3);
    b.due(29, "put", 3, 0);
    says("from -999 to 999: noise leaves no number beyond");
    b.lay(4, "-999 999");
    b.due(2, "noise", 4, 'f', 1000, 0, 0);
    b.dueRow(4, "999 -999");
    b.due(1, "noise", 4, 'h', 1000, 999, 0);
    b.dueRow(4, "999 999");
    b.due(2, "noise", 4, 'd', 1000, 0, 0);
    b.dueRow(4, "499 499");
  }

  private static void bitsAndSoftRows() {
    says("A row is of bits if all its numbers are 0 or 1, an empty one too");
    for (String row : new String[] {"", "0", "1", "0 1", many(64, "1"), many(64, "0")}) {
      Bench b = new Bench();
      b.lay(0, row);
      b.due(numbers(row).size(), "soften", 0, 5, 1);
      b.due(numbers(row).size(), "noise", 0, 'f', 1000, 0, 0);
    }
    for (String row : new String[] {"2", "-1", "0 1 2", "-1 0 1", many(63, "1") + " 2", "-1 " + many(63, "0")}) {
      Bench b = new Bench();
      b.lay(0, row);
      b.refused(UNFIT, "soften", 0, 5, 1);
      b.refused(UNFIT, "sync", 0, 3);
    }
    says("a number above 0 speaks for the bit 0, one below 0 for 1, 0 for neither");
    Bench b = new Bench();
    b.due(0, "graph", 3, 1);
    b.lay(0, "1 0 -1");
    b.due(1, "decodeGraph", 0, 0, 1, 'f', false, 1);
    b.dueRow(1, "0 0 1");
    b.due(1, "shift", 1, 2, 2, 0, 'b', 15);
    // both outputs of a step are the bit that comes in
    b.lay(0, "1 0 -1 0 0 0 0 -1 1 -1");
    b.due(1 + 1 + 0 + 1 + 0, "decode", 1, 0, 1);
    b.dueRow(1, "0 1 0 1 0");
    b.due(2, "splits", 1, 2, 8, false);
    b.lay(0, "1 -1");
    b.due(0, "decode", 2, 0, 1);
    b.dueRow(1, "1 1");
    b.lay(0, "0 -1");
    b.due(0, "decode", 2, 0, 1);
    b.dueRow(1, "0 1");
    b.lay(0, "-1 0");
    b.due(0, "decode", 2, 0, 1);
    b.dueRow(1, "0 1");
    b.lay(0, "0 0");
    b.due(0, "decode", 2, 0, 1);
    b.dueRow(1, "0 0");
  }

  private static void takesThePlace() {
    says("What is put on a shelf takes the place of its row");
    Bench b = new Bench();
    String full = many(64, "7");
    b.lay(0, "0 1").lay(9, full);
    b.due(2, "soften", 0, 3, 9);
    b.dueRow(9, "3 -3");
    b.due(2, "soften", 0, 3, 0);
    b.dueRow(0, "3 -3");
    b.due(0, "roots", 8, 1, 2);
    b.lay(0, "2").lay(9, full);
    b.due(3, "encode", 0, 0, 9);
    b.dueRow(9, "2 7 6");
    b.due(3, "encode", 0, 0, 0);
    b.dueRow(0, "2 7 6");
    b.due(0, "decode", 0, 0, 0);
    b.dueRow(0, "2");
    b = new Bench();
    b.due(0, "shift", 1, 3, 2, 0, 't', 15);
    b.lay(0, "1").lay(9, full);
    b.due(4, "encode", 0, 0, 9);
    b.dueRow(9, "1 1 1 0");
    b.due(4, "encode", 0, 0, 0);
    b.dueRow(0, "1 1 1 0");
    b.due(4, "soften", 0, 1, 0);
    b.due(4, "decodeList", 0, 0, 0, 0);
    b.dueRow(0, "1");
    b.due(1, "twins", 4, 'r', 1, 0);
    b.lay(0, "0 0 0 1").lay(9, full);
    b.due(12, "encode", 1, 0, 9);
    b.due(12, "encode", 1, 0, 0);
    b.dueRow(0, "0 0 0 0 0 0 0 0 0 1 1 1");
    b.dueRow(9, "0 0 0 0 0 0 0 0 0 1 1 1");
    b.due(12, "soften", 0, 9, 0);
    b.due(1, "decodeTwins", 1, 0, 20, 0);
    b.dueRow(0, "0 0 0 1");
    b = new Bench();
    b.due(0, "splits", 1, 2, 8, false);
    b.lay(0, "0 1").lay(9, full);
    b.due(2, "encode", 0, 0, 0);
    b.dueRow(0, "1 1");
    b.due(2, "soften", 0, 4, 0);
    b.due(0, "decodeSplits", 0, 0, 4, 0);
    b.dueRow(0, "0 1");
    b.due(1, "graph", 2, 1);
    b.due(1, "edge", 1, 0, 0);
    b.due(2, "edge", 1, 0, 1);
    b.lay(0, "1");
    b.due(2, "encode", 1, 0, 0);
    b.dueRow(0, "1 1");
    b.due(2, "soften", 0, 4, 0);
    b.due(1, "decodeGraph", 1, 0, 1, 'f', false, 0);
    b.dueRow(0, "1 1");
  }

  private static void draws() {
    says("A draw of a number z makes it z times 1103515245 plus 12345, modulo 2147483648, and tells it divided by 65536, cut");
    // the first draws of 0 are 0 21468 9988 22117 3498 16927 16045 19741 12122 8410
    int[] odds = {0, 1, 45, 46, 117, 118, 122, 123, 927, 928, 988, 989, 1000};
    String[] hit = {
      "0 0 0 0 0 0 0 0 0 0", "7 0 0 0 0 0 0 0 0 0", "7 0 0 0 0 0 0 0 0 0", "7 0 0 0 0 0 7 0 0 0", "7 0 0 0 0 0 7 0 0 0",
      "7 0 0 7 0 0 7 0 0 0", "7 0 0 7 0 0 7 0 0 0", "7 0 0 7 0 0 7 0 7 0", "7 7 0 7 7 0 7 7 7 7", "7 7 0 7 7 7 7 7 7 7",
      "7 7 0 7 7 7 7 7 7 7", "7 7 7 7 7 7 7 7 7 7", "7 7 7 7 7 7 7 7 7 7"};
    for (int i = 0; i < odds.length; i++) {
      Bench b = new Bench();
      b.lay(0, many(10, "0"));
      b.due(hit[i].replaceAll("[^7]", "").length(), "noise", 0, 'h', odds[i], 7, 0);
      b.dueRow(0, hit[i]);
    }
    says("modulo 2147483648: 64 draws of a seed, the first and the last seed among them");
    for (int seed : new int[] {0, 1, 2, 32767, 32768, 65535, 65536, 99998, 99999}) {
      int[] told = Model.draws(seed, 64);
      for (int place : new int[] {0, 1, 31, 63}) {
        for (int more = 0; more < 2; more++) {
          int below = told[place] % 1000 + more;
          Bench b = new Bench();
          b.lay(0, many(64, "0"));
          List<Integer> row = new ArrayList<>();
          for (int z : told) row.add(z % 1000 < below ? 7 : 0);
          b.does("noise", 0, 'h', below, 7, seed);
          b.dueRow(0, told(row));
        }
      }
    }
    says("each call draws from its seed on");
    Bench b = new Bench();
    b.lay(0, many(10, "0")).lay(1, many(10, "0"));
    b.due(3, "noise", 0, 'h', 118, 7, 0);
    b.due(3, "noise", 1, 'h', 118, 7, 0);
    b.due(3, "noise", 0, 'h', 118, 8, 0);
    b.dueRow(0, "8 0 0 8 0 0 8 0 0 0");
    b.dueRow(1, "7 0 0 7 0 0 7 0 0 0");
  }

  // ---- roots

  private static Bench rootsOf(int elements, int message, int checks) {
    Bench b = new Bench();
    b.due(0, "roots", elements, message, checks);
    return b;
  }

  private static void rootsOfAllMultiples() {
    says("multiplied modulo x*x*x + x + 1, or x*x*x*x + x + 1");
    // the words of one element are its products with (x + a)(x + a a): 1 6 3, or 1 6 8
    for (int elements : new int[] {8, 16}) {
      Bench b = rootsOf(elements, 1, 2);
      for (int z = 0; z < elements; z++) {
        b.lay(0, "" + z);
        b.due(3, "encode", 0, 0, 1);
        b.dueRow(1, z + " " + Model.times(z, 6, elements) + " " + Model.times(z, elements == 8 ? 3 : 8, elements));
      }
    }
    Bench b = rootsOf(8, 1, 2);
    b.lay(0, "7");
    b.due(3, "encode", 0, 0, 1);
    b.dueRow(1, "7 4 2");
    b = rootsOf(16, 1, 2);
    b.lay(0, "15");
    b.due(3, "encode", 0, 0, 1);
    b.dueRow(1, "15 4 1");
    says("0 at a, a to the power 2, and so on to the power r");
    for (int checks = 2; checks <= 6; checks++) {
      for (int elements : new int[] {8, 16}) {
        Bench whole = rootsOf(elements, elements - 1 - checks, checks);
        StringBuilder message = new StringBuilder();
        for (int i = 0; i < elements - 1 - checks; i++) message.append((5 * i + 3) % elements).append(' ');
        whole.lay(0, message.toString());
        whole.due(elements - 1, "encode", 0, 0, 1);
        Check.is("a word of the greatest length", Model.isRootWord(whole.row(1), checks, elements));
        Check.same("begins with its message", told(whole.row(1).subList(0, elements - 1 - checks)), message.toString().trim());
      }
    }
  }

  private static void rootsNearWords() {
    says("If there is a word of which the row, but for its h holes, differs in e places, such that 2 e plus h is at most r, "
        + "it is that one, and e is told; otherwise it gives up");
    // (x + a)(x + a a) is 1 6 3, and that times x + a a a is 1 5 2 5
    for (int[] word : new int[][] {{1, 6, 3}, {1, 5, 2, 5}}) {
      int rows = word.length == 3 ? 9 * 9 * 9 : 9 * 9 * 9 * 9;
      Bench b = rootsOf(8, 1, word.length - 1);
      for (int i = 0; i < rows; i++) {
        if (i % 20 == 0) b = rootsOf(8, 1, word.length - 1);
        int[] row = new int[word.length];
        for (int j = 0, z = i; j < row.length; j++, z /= 9) row[j] = z % 9 - 1;
        nearWord(b, row, word);
      }
    }
  }

  private static void nearWord(Bench b, int[] row, int[] word) {
    List<Integer> laid = new ArrayList<>();
    for (int z : row) laid.add(z);
    b.lay(0, told(laid));
    for (int message = 0; message < 8; message++) {
      int holes = 0;
      int errors = 0;
      for (int i = 0; i < row.length; i++) {
        if (row[i] < 0) holes++;
        else if (row[i] != Model.times(message, word[i], 8)) errors++;
      }
      if (2 * errors + holes > row.length - 1) continue;
      b.due(errors, "decode", 0, 0, 1);
      b.dueRow(1, "" + message);
      return;
    }
    b.due(NONE, "decode", 0, 0, 1);
  }

  private static void rootsAtTheirLimit() {
    says("2 e plus h is at most r");
    for (int elements : new int[] {8, 16}) {
      for (int checks = 2; checks <= 6; checks++) {
        for (int holes = 0; holes <= checks; holes++) {
          for (int side = 0; side < 2; side++) atLimit(elements, checks, holes, (checks - holes) / 2, side == 0);
        }
        Bench b = rootsOf(elements, elements - 1 - checks, checks);
        b.lay(0, many(checks + 1, "-1") + " " + many(elements - 2 - checks, "0"));
        b.refused(NONE, "decode", 0, 0, 1);
        b.lay(0, many(elements - 1, "-1"));
        b.refused(NONE, "decode", 0, 0, 1);
      }
    }
  }

  /** Holes at one end of the longest word, errors at the other one: as many as are mended, then one more. */
  private static void atLimit(int elements, int checks, int holes, int errors, boolean isHoleFirst) {
    int length = elements - 1;
    Bench b = rootsOf(elements, length - checks, checks);
    StringBuilder message = new StringBuilder();
    for (int i = 0; i < length - checks; i++) message.append((7 * i + 2) % elements).append(' ');
    b.lay(0, message.toString());
    b.due(length, "encode", 0, 0, 1);
    List<Integer> row = b.row(1);
    for (int i = 0; i < holes; i++) row.set(isHoleFirst ? i : length - 1 - i, -1);
    for (int i = 0; i < errors; i++) {
      int place = isHoleFirst ? length - 1 - i : i;
      row.set(place, row.get(place) ^ elements - 1 - i);
    }
    b.lay(2, told(row));
    b.due(errors, "decode", 0, 2, 3);
    b.dueRow(3, message.toString());
    int middle = length / 2;
    row.set(middle, row.get(middle) ^ 1);
    b.lay(2, told(row));
    Object got = b.does("decode", 0, 2, 3);
    Check.is("one error more is not taken for so many", !got.equals((long) errors) || 2 * (errors + 1) + holes > checks);
  }

  // ---- shift registers

  /** A word by its definition: a bit ahead of all is 0, or, for a ring, one of the message's end. */
  private static List<Integer> shiftWord(int memory, int[] generators, boolean isRing, List<Integer> message) {
    List<Integer> out = new ArrayList<>();
    int length = message.size();
    for (int step = 0; step < length + (isRing ? 0 : memory); step++) {
      for (int generator : generators) {
        int sum = 0;
        for (int back = 0; back <= memory; back++) {
          int from = step - back;
          int bit = from < 0 ? (isRing ? message.get(from + length) : 0) : from < length ? message.get(from) : 0;
          if ((generator >> memory - back & 1) == 1) sum += bit;
        }
        out.add(sum % 2);
      }
    }
    return out;
  }

  private static String[] messages(int length) {
    String one = "1 " + many(length - 1, "0");
    String last = many(length - 1, "0") + " 1";
    StringBuilder mixed = new StringBuilder();
    for (int i = 0; i < length; i++) mixed.append(i * i % 7 % 2).append(' ');
    return new String[] {one.trim(), last.trim(), many(length, "1"), mixed.toString().trim()};
  }

  private static void words(boolean isRing) {
    for (int memory = 1; memory <= 4; memory++) {
      for (int length : new int[] {1, 2, 3, memory, memory + 1, 15, 16}) {
        if (isRing && length < memory) continue;
        Bench b = new Bench();
        int top = (2 << memory) - 1;
        int[][] codes = {{1 << memory, 1, top}, {1 << memory - 1, top, 0}, {1, 1 << memory, 0}, {top, 2, 1}};
        for (int i = 0; i < codes.length; i++) b.due(i, "shift", memory, codes[i][0], codes[i][1], codes[i][2], isRing ? 'b' : 't', 15);
        for (String message : messages(length)) {
          b.lay(0, message);
          for (int i = 0; i < codes.length; i++) {
            int[] generators = codes[i][2] == 0 ? new int[] {codes[i][0], codes[i][1]} : codes[i];
            List<Integer> word = shiftWord(memory, generators, isRing, numbers(message));
            b.due(word.size(), "encode", i, 0, 1);
            b.dueRow(1, told(word));
          }
        }
      }
    }
  }

  private static void registers() {
    says("its highest bit is for the bit that comes in, the next one for the bit before, and so on to the m-th one before; bits ahead of all are 0");
    Bench b = new Bench();
    b.due(0, "shift", 4, 16, 1, 0, 't', 15);
    b.lay(0, "1 1");
    b.due(12, "encode", 0, 0, 1);
    b.dueRow(1, "1 0 1 0 0 0 0 0 0 1 0 1");
    words(false);
    says("each word begins with an empty register");
    b.due(12, "encode", 0, 0, 1);
    b.dueRow(1, "1 0 1 0 0 0 0 0 0 1 0 1");
  }

  private static void rings() {
    says("for 'b' those of the message's end");
    Bench b = new Bench();
    b.due(0, "shift", 4, 16, 1, 0, 'b', 15);
    b.lay(0, "1 0 0 0");
    b.due(8, "encode", 0, 0, 1);
    // four bits before the first one of four is this one itself
    b.dueRow(1, "1 1 0 0 0 0 0 0");
    b.lay(0, "1 0 0 0 0");
    b.due(10, "encode", 0, 0, 1);
    b.dueRow(1, "1 0 0 0 0 0 0 0 0 1");
    words(true);
  }

  private static void holesAgainAndAgain() {
    says("These outputs, generator by generator, are kept where the holes, again and again, have 1");
    String[] holes = {
      "1 0", "0 1", "1 1 0 1", "0 0 0 1", "1 0 0 0 0 0", "1 1 0 1 1 0 0 1", "1 0 1 0 0 1 1 0 0 1", "1 1 0 1 1 0 0 1 1 1 1 0",
      "0 0 0 0 0 0 0 0 0 0 0 1", "1 0 0 0 0 0 0 0 0 0 0 0", "0 1 1", "1 0 0 0 0 1", "1 1 1 0 0 0 1 0 1", "1 0 1 1 0 1 0 1 0 0 1 1"};
    for (String row : holes) {
      List<Integer> kept = numbers(row);
      for (int many = 2; many <= 3; many++) {
        if (kept.size() % many != 0) continue;
        int[] generators = many == 2 ? new int[] {3, 2} : new int[] {3, 2, 1};
        Bench b = new Bench();
        b.lay(15, row);
        b.due(0, "shift", 1, 3, 2, many == 2 ? 0 : 1, 't', 15);
        b.due(1, "shift", 1, 3, 2, many == 2 ? 0 : 1, 'b', 15);
        for (int length : new int[] {1, 3, 4, 5, 6, 16}) {
          String message = messages(length)[3];
          b.lay(0, message);
          for (int code = 0; code < 2; code++) {
            List<Integer> all = shiftWord(1, generators, code == 1, numbers(message));
            List<Integer> word = new ArrayList<>();
            for (int i = 0; i < all.size(); i++) if (kept.get(i % kept.size()) == 1) word.add(all.get(i));
            b.due(word.size(), "encode", code, 0, 1);
            b.dueRow(1, told(word));
          }
        }
      }
    }
    says("all 1 if none is told");
    Bench b = new Bench();
    b.due(0, "shift", 1, 3, 2, 1, 't', 15);
    b.lay(0, "1");
    b.due(6, "encode", 0, 0, 1);
    b.dueRow(1, "1 1 0 1 0 1");
  }

  private static void leastLengths() {
    says("as long as the word of a message of some length, the least such");
    Bench b = new Bench();
    b.lay(15, "0 0 0 0 0 0 0 0 0 0 0 1");
    b.due(0, "shift", 1, 3, 1, 0, 't', 15);
    b.due(1, "shift", 4, 16, 1, 0, 'b', 15);
    for (int length = 1; length <= 16; length++) {
      b.lay(0, many(length, "1"));
      b.due((2 * length + 2) / 12, "encode", 0, 0, 1);
    }
    // words of 1 to 4 bits have no numbers, those of 5 to 10 one, those of 11 to 16 two
    b.lay(0, "");
    b.due(0, "decode", 0, 0, 1);
    b.dueRow(1, "0");
    b.due(0, "decodeList", 0, 0, 1, 1);
    b.dueRow(1, "1");
    b.lay(0, "-5");
    b.due(5, "decode", 0, 0, 1);
    b.dueRow(1, "0 0 0 0 1");
    b.lay(0, "-5 5");
    b.due(10, "decode", 0, 0, 1);
    b.dueRow(1, "0 0 0 0 1 0 0 0 0 0 0");
    b.lay(0, "-5 5 5");
    b.refused(UNFIT, "decode", 0, 0, 1);
    says("for 'b' at least m");
    b.lay(0, "");
    b.due(0, "decode", 1, 0, 1);
    b.dueRow(1, "0 0 0 0");
    b.lay(0, "-5");
    b.due(5, "decode", 1, 0, 1);
    b.dueRow(1, "0 1 0 0 0 0");
    b.lay(0, "-5 -5");
    b.due(10, "decode", 1, 0, 1);
    b.dueRow(1, "0 1 0 0 0 0 0 1 0 0 0 0");
    b.lay(0, "-5 -5 -5");
    b.refused(UNFIT, "decode", 1, 0, 1);
    says("messages of 1 and of 16 bits");
    for (int memory = 1; memory <= 4; memory++) {
      lengthsAre(memory, 't', 2 + 2 * memory, 32 + 2 * memory);
      lengthsAre(memory, 'b', 2 * memory, 32);
    }
  }

  /** The least and the greatest row of a shift code with two generators; those beyond do not fit. */
  private static void lengthsAre(int memory, char end, int least, int most) {
    for (int many : new int[] {least - 2, least - 1, least, least + 1, most - 1, most, most + 1, most + 2}) {
      Bench b = new Bench();
      b.due(0, "shift", memory, 3, 2, 0, end, 15);
      b.lay(0, many(many, "9"));
      if (many != least && many != most) {
        b.refused(UNFIT, "decode", 0, 0, 1);
        continue;
      }
      b.due(9 * many, "decode", 0, 0, 1);
      b.dueRow(1, many(end == 't' ? many / 2 - memory : many / 2, "0"));
    }
  }

  private static void metrics() {
    says("the metric of a message is the sum of its numbers where its word has 0, less those where it has 1");
    Bench b = new Bench();
    b.due(0, "shift", 4, 1, 1, 1, 't', 15);
    b.lay(0, many(60, "999"));
    b.due(60 * 999, "decode", 0, 0, 1);
    b.dueRow(1, many(16, "0"));
    b.lay(0, many(60, "-999"));
    // the first four steps are 0 whatever comes in
    b.due(48 * 999 - 12 * 999, "decode", 0, 0, 1);
    b.dueRow(1, many(16, "1"));
    says("a metric may be below 0, and is told all the same");
    b.due(1, "shift", 1, 1, 1, 0, 't', 15);
    b.lay(0, "-999 -999 1 0");
    b.due(-2 * 999 + 1, "decode", 1, 0, 1);
    b.dueRow(1, "0");
    b.due(-2 * 999 - 1, "decodeList", 1, 0, 1, 1);
    b.dueRow(1, "1");
  }

  private static void orderOfMessages() {
    says("of the same metric by their bits, 0 ahead of 1 in the first one that is unlike");
    for (int length : new int[] {1, 2, 3, 16}) {
      Bench b = new Bench();
      b.due(0, "shift", 1, 3, 2, 0, 't', 15);
      b.due(1, "shift", 1, 3, 2, 0, 'b', 15);
      for (int code = 0; code < 2; code++) {
        b.lay(0, many(2 * length + (code == 0 ? 2 : 0), "0"));
        for (int place = 0; place < 4; place++) {
          if (place >> length > 0) {
            b.refused(NONE, "decodeList", code, 0, place, 1);
            continue;
          }
          b.due(0, "decodeList", code, 0, place, 1);
          b.dueRow(1, bits(place, length));
        }
        b.due(0, "decode", code, 0, 1);
        b.dueRow(1, bits(0, length));
      }
    }
    says("the order of falling metrics");
    Bench b = new Bench();
    b.due(0, "shift", 1, 2, 2, 0, 'b', 15);
    // each bit has its own numbers: 1 4 2 is the first message, and the metrics fall by twice a number
    b.lay(0, "-1 0 4 0 -2 0");
    long[] metrics = {7, 5, 3, 1};
    String[] told = {"1 0 1", "0 0 1", "1 0 0", "0 0 0"};
    for (int place = 0; place < 4; place++) {
      b.due((int) metrics[place], "decodeList", 0, 0, place, 1);
      b.dueRow(1, told[place]);
    }
    // of the metrics 4 4 0 0 0 0 those with 0 ahead come first
    b.lay(0, "-2 0 0 0 2 0");
    String[] alike = {"1 0 0", "1 1 0", "0 0 0", "0 1 0"};
    for (int place = 0; place < 4; place++) {
      b.due(place < 2 ? 4 : 0, "decodeList", 0, 0, place, 1);
      b.dueRow(1, alike[place]);
    }
  }

  private static void earlyAnswers() {
    says("when a step, from 0 on, has been done, the tails included, whose number is at least the depth");
    Bench b = new Bench();
    // each bit is heard in its own step and two steps later
    b.due(0, "shift", 2, 4, 1, 0, 't', 15);
    b.lay(0, "1 0 0 0 0 -5");
    b.due(1, "early", 0, 0, 1);
    b.due(0, "early", 0, 0, 2);
    b.due(0, "early", 0, 0, 3);
    b.due(0, "early", 0, 0, 4);
    b.due(0, "early", 0, 0, 20);
    says("Only bits of the message are told");
    b.lay(0, "1 0 1 0 1 0 1 -5 0 -5 0 -5");
    b.due(3, "early", 0, 0, 1);
    b.due(0, "early", 0, 0, 2);
    says("by metrics and bits so far, of all rows of inputs so far");
    b.lay(0, "0 0 0 0 0 0 0 0");
    for (int depth = 1; depth <= 20; depth++) b.due(0, "early", 0, 0, depth);
    b.lay(0, "0 0 0 0 0 -1 0 0");
    b.due(1, "early", 0, 0, 1);
    says("messages of 16 bits with all depths");
    Bench whole = new Bench();
    whole.due(0, "shift", 4, 16, 1, 0, 't', 15);
    StringBuilder row = new StringBuilder();
    for (int i = 0; i < 40; i++) row.append(i % 2 == 0 ? i < 32 ? 1 : 0 : i < 8 ? 0 : -5).append(' ');
    whole.lay(0, row.toString());
    for (int depth = 1; depth <= 20; depth++) whole.due(depth < 4 ? 16 : 0, "early", 0, 0, depth);
  }

  private static void earlyRows() {
    says("Early, for 't': of all rows of inputs so far, that end in any state, tails being 0");
    int[][] codes = {{1, 1, 1, 0}, {1, 3, 2, 0}, {2, 7, 5, 0}, {2, 3, 1, 0}, {3, 15, 11, 0}, {4, 31, 21, 27}, {4, 1, 3, 5}};
    for (int i = 0; i < codes.length; i++) {
      for (int length : new int[] {1, 3, 8}) {
        Bench b = new Bench();
        b.due(0, "shift", codes[i][0], codes[i][1], codes[i][2], codes[i][3], 't', 15);
        StringBuilder row = new StringBuilder();
        for (int j = 0; j < (length + codes[i][0]) * (codes[i][3] == 0 ? 2 : 3); j++) row.append((j * j * 7 + 5 * i + 3 * length) % 13 - 6).append(' ');
        b.lay(0, row.toString());
        for (int depth = 1; depth <= length + codes[i][0] + 1; depth++) b.does("early", 0, 0, depth);
        b.lay(0, row.toString().replaceAll("(^| )([1-9])", "$1-$2"));
        for (int depth = 1; depth <= length + codes[i][0] + 1; depth++) b.does("early", 0, 0, depth);
      }
    }
  }

  // ---- twins

  /** A register by its definition: what it tells for each bit that comes. */
  private static List<Integer> registerOf(List<Integer> bits) {
    List<Integer> out = new ArrayList<>();
    int newer = 0;
    int elder = 0;
    for (int bit : bits) {
      int w = (bit + newer + elder) % 2;
      out.add((w + elder) % 2);
      elder = newer;
      newer = w;
    }
    return out;
  }

  private static void twinWords(int length, char law, int a, int c, String order) {
    Bench b = new Bench();
    b.due(0, "twins", length, law, a, c);
    List<Integer> places = numbers(order);
    for (String message : messages(length)) {
      List<Integer> bits = numbers(message);
      List<Integer> turned = new ArrayList<>();
      for (int place : places) turned.add(bits.get(place));
      List<Integer> word = new ArrayList<>();
      for (int i = 0; i < length; i++) {
        word.add(bits.get(i));
        word.add(registerOf(bits).get(i));
        word.add(registerOf(turned).get(i));
      }
      b.lay(0, message);
      b.due(3 * length, "encode", 0, 0, 1);
      b.dueRow(1, told(word));
    }
    for (int place = 0; place < length; place++) {
      b = new Bench();
      b.due(0, "twins", length, law, a, c);
      b.lay(0, many(place, "0") + " 1 " + many(length - 1 - place, "0"));
      b.due(3 * length, "encode", 0, 0, 1);
      List<Integer> turned = new ArrayList<>();
      for (int at : places) turned.add(at == place ? 1 : 0);
      List<Integer> second = new ArrayList<>();
      for (int i = 0; i < length; i++) second.add(b.row(1).get(3 * i + 2));
      Check.same("the second register of the place " + place, second, registerOf(turned));
    }
  }

  private static String upTo(int length) {
    StringBuilder out = new StringBuilder();
    for (int i = 0; i < length; i++) out.append(i).append(' ');
    return out.toString();
  }

  private static void twinOrders() {
    says("'s' with a and b: the place i is at a times i plus b, modulo L");
    twinWords(4, 's', 1, 0, "0 1 2 3");
    twinWords(4, 's', 1, 3, "3 0 1 2");
    twinWords(4, 's', 1, 4, "0 1 2 3");
    twinWords(4, 's', 3, 0, "0 3 2 1");
    twinWords(4, 's', 99, 99999, "3 2 1 0");
    twinWords(5, 's', 2, 3, "3 0 2 4 1");
    twinWords(7, 's', 8, 7, "0 1 2 3 4 5 6");
    twinWords(20, 's', 19, 19, "19 18 17 16 15 14 13 12 11 10 9 8 7 6 5 4 3 2 1 0");
    says("'r' with a: the places are written by rows of a columns and read by columns from the first one on");
    twinWords(4, 'r', 1, 0, "0 1 2 3");
    twinWords(4, 'r', 2, 0, "0 2 1 3");
    twinWords(4, 'r', 3, 0, "0 3 1 2");
    twinWords(4, 'r', 4, 0, "0 1 2 3");
    twinWords(5, 'r', 2, 99999, "0 2 4 1 3");
    twinWords(5, 'r', 4, 0, "0 4 1 2 3");
    twinWords(20, 'r', 19, 0, "0 19 1 2 3 4 5 6 7 8 9 10 11 12 13 14 15 16 17 18");
    twinWords(20, 'r', 20, 0, upTo(20));
    twinWords(20, 'r', 7, 0, "0 7 14 1 8 15 2 9 16 3 10 17 4 11 18 5 12 19 6 13");
    says("'d' with b as the seed: from the last place down to 1, each place i is exchanged with that which a draw tells modulo i plus 1");
    // the draws 0 21468 9988 tell 0 0 0, the draws 16838 5758 10113 tell 2 1 1
    twinWords(4, 'd', 1, 0, "1 2 3 0");
    twinWords(4, 'd', 99, 1, "0 3 1 2");
    for (int seed : new int[] {0, 1, 99999}) {
      for (int length : new int[] {4, 5, 19, 20}) twinWords(length, 'd', 5, seed, drawnOrder(length, seed));
    }
  }

  private static String drawnOrder(int length, int seed) {
    List<Integer> order = numbers(upTo(length));
    int[] told = Model.draws(seed, length - 1);
    for (int i = length - 1; i >= 1; i--) java.util.Collections.swap(order, i, told[length - 1 - i] % (i + 1));
    return told(order);
  }

  private static void twinRegisters() {
    says("A register has two bits, 0 at first");
    Bench b = new Bench();
    b.due(0, "twins", 6, 's', 1, 0);
    b.lay(0, "1 0 0 0 0 0");
    for (int i = 0; i < 2; i++) {
      b.due(18, "encode", 0, 0, 1);
      b.dueRow(1, "1 1 1 0 1 1 0 1 1 0 0 0 0 1 1 0 1 1");
    }
    b.lay(0, "1 1 1 0 0 0");
    b.due(18, "encode", 0, 0, 1);
    // w is 1 0 0 and then 0 for good
    b.dueRow(1, "1 1 1 1 0 0 1 1 1 0 0 0 0 0 0 0 0 0");
  }

  private static void twinRounds() {
    says("Rounds end, too, if in one both have D below 0 for the same places");
    Bench b = new Bench();
    b.due(0, "twins", 4, 's', 3, 1);
    b.lay(0, many(12, "0"));
    b.due(1, "decodeTwins", 0, 0, 20, 1);
    b.dueRow(1, "0 0 0 0");
    b.lay(0, many(12, "999"));
    b.due(1, "decodeTwins", 0, 0, 20, 1);
    b.dueRow(1, "0 0 0 0");
    b.lay(0, many(12, "-999"));
    b.does("decodeTwins", 0, 0, 20, 1);
    says("but not beyond -99 and 99; the rounds that were done are told");
    // rows that would be decoded otherwise if 98 or 100 were told where 99 is due
    String[] rows = {
      "-117 -103 -168 -20 -305 -143 -64 411 129 121 189 458", "-73 31 276 129 113 545 -52 310 -107 89 488 -468",
      "-104 30 -193 27 450 -273 14 542 -494 -114 -236 -269", "-15 -210 129 120 339 232 15 -80 -461 -99 470 -552"};
    int[] done = {20, 20, 20, 16};
    String[] messages = {"0 1 1 1", "0 0 0 1", "0 0 0 0", "0 0 0 1"};
    for (int i = 0; i < rows.length; i++) {
      b.lay(2, rows[i]);
      for (int turn = 0; turn < 2; turn++) {
        b.due(done[i], "decodeTwins", 0, 2, 20, 1);
        b.dueRow(1, messages[i]);
      }
      for (int rounds = 1; rounds < done[i]; rounds++) b.due(rounds, "decodeTwins", 0, 2, rounds, 1);
    }
    says("what the other register told last, 0 at first: each decoding begins anew");
    b.lay(3, "1 2 3 4 5 6 7 8 9 -1 -2 -3");
    b.does("decodeTwins", 0, 3, 1, 1);
    b.does("decodeTwins", 0, 3, 2, 1);
    b.does("decodeTwins", 0, 3, 1, 1);
  }

  // ---- graphs

  private static Bench graph(int bits, int checks, String edges) {
    Bench b = new Bench();
    b.due(0, "graph", bits, checks);
    int done = 0;
    for (String edge : edges.trim().split(" +")) {
      if (edge.isEmpty()) continue;
      String[] of = edge.split("-");
      b.due(++done, "edge", 0, Integer.parseInt(of[0]), Integer.parseInt(of[1]));
    }
    return b;
  }

  private static void word(Bench b, String message, String word) {
    b.lay(0, message);
    b.due(numbers(word).size(), "encode", 0, 0, 1);
    b.dueRow(1, word);
  }

  private static void freeBits() {
    says("with edges between them, none at first: all bits are free");
    for (int bits : new int[] {2, 16}) {
      Bench b = graph(bits, 8, "");
      word(b, many(bits, "1"), many(bits, "1"));
      word(b, "1 " + many(bits - 1, "0"), "1 " + many(bits - 1, "0"));
    }
    says("one is bound if its column is not a sum modulo 2 of columns of bound ones ahead; others are free");
    Bench b = graph(4, 2, "0-0 1-1 0-2 1-2");
    word(b, "1 0", "1 1 1 0");
    word(b, "0 1", "0 0 0 1");
    b = graph(3, 1, "0-1 0-2");
    word(b, "1 0", "1 0 0");
    word(b, "0 1", "0 1 1");
    b = graph(2, 8, "7-0 7-1");
    word(b, "1", "1 1");
    // the third column is that of the second bit alone
    b = graph(3, 2, "1-0 0-1 1-1 0-2 1-2");
    word(b, "1", "0 1 1");
    b = graph(4, 3, "0-0 1-0 1-1 2-1 0-2 2-2 2-3");
    word(b, "1", "1 1 1 0");
    b.refused(UNFIT, "encode", 0, 1, 1);
    says("eight bound bits, and eight free ones whose columns are their sum");
    StringBuilder edges = new StringBuilder();
    for (int i = 0; i < 8; i++) edges.append(i).append('-').append(i).append(' ');
    for (int i = 0; i < 64; i++) edges.append(i % 8).append('-').append(8 + i / 8).append(' ');
    b = graph(16, 8, edges.toString());
    word(b, "1 0 0 0 0 0 0 0", many(8, "1") + " 1 0 0 0 0 0 0 0");
    word(b, "0 0 0 0 0 0 0 1", many(8, "1") + " 0 0 0 0 0 0 0 1");
    word(b, "1 0 0 0 0 0 0 1", many(8, "0") + " 1 0 0 0 0 0 0 1");
    says("A message has as many bits as there are free ones, at least 1");
    b = graph(2, 2, "0-0 1-1");
    b.lay(0, "");
    b.refused(UNFIT, "encode", 0, 0, 1);
    b.due(1, "edge", 0, 1, 1);
    word(b, "1", "0 1");
  }

  private static void graphLimits() {
    says("what the bit sends is not beyond -31 and 31");
    Bench b = graph(3, 1, "0-0 0-1 0-2");
    b.lay(0, "100 100 -62");
    b.refused(NONE, "decodeGraph", 0, 0, 20, 'f', false, 1);
    b.lay(0, "100 100 -31");
    b.due(1, "decodeGraph", 0, 0, 1, 'f', false, 1);
    b.dueRow(1, "0 0 0");
    b.lay(0, "100 100 -32");
    b.refused(NONE, "decodeGraph", 0, 0, 20, 'f', false, 1);
    b.lay(0, "30 100 -31");
    b.due(1, "decodeGraph", 0, 0, 1, 'c', false, 1);
    b.dueRow(1, "1 0 1");
    b.lay(0, "-31 -31 -31");
    b.due(1, "decodeGraph", 0, 0, 1, 'f', false, 1);
    b.dueRow(1, "0 0 0");
    b.lay(0, "-32 -32 -32");
    b.refused(NONE, "decodeGraph", 0, 0, 20, 'f', false, 1);
    says("31 without such");
    b = graph(2, 1, "0-0");
    b.lay(0, "-31 0");
    b.due(1, "decodeGraph", 0, 0, 1, 'f', false, 1);
    b.dueRow(1, "0 0");
    b.lay(0, "-32 0");
    b.refused(NONE, "decodeGraph", 0, 0, 20, 'f', false, 1);
    says("damped, it is half of the sum of the old and the new one, cut");
    b.lay(0, "-15 -1");
    b.due(1, "decodeGraph", 0, 0, 1, 'f', true, 1);
    b.lay(0, "-16 -1");
    b.refused(NONE, "decodeGraph", 0, 0, 1, 'f', true, 1);
    b.due(2, "decodeGraph", 0, 0, 2, 'f', true, 1);
    b.lay(0, "-23 -1");
    b.due(2, "decodeGraph", 0, 0, 2, 'f', true, 1);
    b.lay(0, "-24 -1");
    b.due(3, "decodeGraph", 0, 0, 20, 'f', true, 1);
    b.lay(0, "-27 -1");
    b.due(3, "decodeGraph", 0, 0, 20, 'c', true, 1);
    b.lay(0, "-29 -1");
    b.due(4, "decodeGraph", 0, 0, 20, 'c', true, 1);
    b.lay(0, "-30 -1");
    b.due(5, "decodeGraph", 0, 0, 20, 'c', true, 1);
    b.lay(0, "-31 -1");
    b.refused(NONE, "decodeGraph", 0, 0, 20, 'c', true, 1);
    says("with the sign of the product of these, 0 if one is 0");
    b = graph(3, 1, "0-0 0-1 0-2");
    b.lay(0, "5 0 -1");
    b.due(1, "decodeGraph", 0, 0, 1, 'f', false, 1);
    b.dueRow(1, "0 1 1");
    b.lay(0, "0 0 -1");
    b.refused(NONE, "decodeGraph", 0, 0, 20, 'f', false, 1);
    says("a bit is 1 if its number plus all messages to it is below 0");
    b.lay(0, "5 5 -5");
    b.due(1, "decodeGraph", 0, 0, 1, 'f', false, 1);
    b.dueRow(1, "0 0 0");
  }

  private static void graphRounds() {
    says("messages of checks to bits are 0 at first: each decoding begins anew");
    Bench b = graph(3, 1, "0-0 0-1 0-2");
    // damped -2 -3 2, then -3 -4 3, then -3 -5 3, with which the second bit is 1 at last
    b.lay(0, "6 4 -9");
    for (int turn = 0; turn < 2; turn++) {
      b.refused(NONE, "decodeGraph", 0, 0, 2, 'f', true, 1);
      b.due(3, "decodeGraph", 0, 0, 3, 'f', true, 1);
      b.dueRow(1, "0 1 1");
      b.due(3, "decodeGraph", 0, 0, 20, 'f', true, 1);
      b.due(1, "decodeGraph", 0, 0, 1, 'f', false, 1);
    }
    says("an edge that was taken away tells no more");
    b.due(3, "decodeGraph", 0, 0, 20, 'f', true, 1);
    b.due(2, "edge", 0, 0, 2);
    b.lay(0, "6 4 -2");
    b.due(1, "decodeGraph", 0, 0, 1, 'f', false, 1);
    b.dueRow(1, "0 0 1");
    b.due(1, "decodeGraph", 0, 0, 1, 'c', false, 1);
    b.dueRow(1, "0 0 1");
    b.due(3, "edge", 0, 0, 2);
    says("if all checks are even, it ends, and the rounds done are told; otherwise, behind the last round, it gives up");
    b.lay(0, "1 1 1");
    b.due(1, "decodeGraph", 0, 0, 20, 'f', false, 1);
    exactRounds();
  }

  /** Rows that settle in the last round of 20, and in the last one but one, which one round less gives up. */
  private static void exactRounds() {
    String[] edges = {
      "0-1 0-2 0-3 0-4 1-2 1-4 2-2 2-3 2-4", "0-0 0-1 0-3 1-0 1-2 1-3 2-1 2-3 2-4 3-3 3-4",
      "0-1 0-3 0-4 1-1 1-3 1-4 2-0 2-1 3-0 3-1 3-3 3-5", "0-1 0-3 1-1 1-3"};
    int[][] sizes = {{5, 3}, {5, 4}, {6, 4}, {4, 2}};
    String[] rows = {"-9 6 -11 11 7", "-4 -3 11 -8 4", "2 17 -9 34 34 -33", "-29 -19 -9 18"};
    boolean[] isDamped = {false, false, true, false};
    int[] rounds = {20, 20, 20, 19};
    for (int i = 0; i < rows.length; i++) {
      Bench b = graph(sizes[i][0], sizes[i][1], edges[i]);
      b.lay(0, rows[i]).lay(1, "77");
      b.refused(NONE, "decodeGraph", 0, 0, rounds[i] - 1, 'f', isDamped[i], 1);
      b.dueRow(1, "77");
      b.due(rounds[i], "decodeGraph", 0, 0, rounds[i], 'f', isDamped[i], 1);
      b.due(rounds[i], "decodeGraph", 0, 0, 20, 'f', isDamped[i], 1);
    }
  }

  private static void graphLaws() {
    says("'f': all by the messages as the round began; 'c': a check's new messages hold for the next check");
    Bench b = graph(3, 2, "0-0 0-1 1-1 1-2");
    // the first check tells 6 to the second bit, which then sends 1 to the other check, but -5 if all is done at once
    b.lay(0, "6 -5 4");
    b.due(1, "decodeGraph", 0, 0, 1, 'c', false, 1);
    b.dueRow(1, "0 0 0");
    b.refused(NONE, "decodeGraph", 0, 0, 1, 'f', false, 1);
    b.due(2, "decodeGraph", 0, 0, 20, 'f', false, 1);
    b.dueRow(1, "0 0 0");
    b.due(1, "decodeGraph", 0, 0, 20, 'c', false, 1);
    says("for each check, by rising numbers");
    Bench turned = graph(3, 2, "1-0 1-1 0-1 0-2");
    turned.lay(0, "6 -5 4");
    turned.refused(NONE, "decodeGraph", 0, 0, 1, 'c', false, 1);
    turned.due(2, "decodeGraph", 0, 0, 20, 'c', false, 1);
  }

  // ---- splits

  private static void openPlaces() {
    says("The places with the greatest numbers are shut, until k are open");
    String[] halves = {"00000001", "00000011", "00000111", "00010111", "00011111", "00111111", "01111111", "11111111"};
    for (int open = 1; open <= 8; open++) openAre(3, open, 8, halves[open - 1]);
    for (int loss = 1; loss <= 15; loss++) {
      openAre(1, 1, loss, "01");
      openAre(1, 2, loss, "11");
      openAre(4, 1, loss, many(15, "0").replace(" ", "") + "1");
      openAre(4, 16, loss, many(16, "1").replace(" ", ""));
    }
    says("of several the lower ones");
    // with so much loss the places 0 1 2 4 8 of sixteen have the same number
    String[] most = {"0111111111111111", "0011111111111111", "0001111111111111", "0001011111111111", "0001011101111111"};
    for (int shut = 1; shut <= 5; shut++) openAre(4, 16 - shut, 15, most[shut - 1]);
    says("be the code checked or not");
    Bench b = new Bench();
    b.due(0, "splits", 3, 4, 8, true);
    for (int i = 0; i < 8; i++) b.due("00010111".charAt(i) == '1', "isOpen", 0, i);
    says("the open places of each split code are as many as told");
    for (int power = 1; power <= 4; power++) {
      for (int open = 1; open <= 1 << power; open++) {
        Bench each = new Bench();
        each.due(0, "splits", power, open, 3, false);
        int found = 0;
        for (int i = 0; i < 1 << power; i++) if (each.does("isOpen", 0, i).equals(true)) found++;
        Check.same("open places", found, open);
        each.due(true, "isSound");
      }
    }
  }

  private static void openAre(int power, int open, int loss, String want) {
    Bench b = new Bench();
    b.due(0, "splits", power, open, loss, false);
    for (int i = 0; i < 1 << power; i++) b.due(want.charAt(i) == '1', "isOpen", 0, i);
  }

  private static void splitRows() {
    says("the word's bit j is the sum modulo 2 of the places i of which all bits that j has are in i");
    for (int power = 1; power <= 4; power++) {
      int size = 1 << power;
      Bench b = new Bench();
      b.due(0, "splits", power, size, 8, false);
      for (int place = 0; place < size; place++) {
        StringBuilder word = new StringBuilder();
        for (int j = 0; j < size; j++) word.append((place & j) == j ? 1 : 0).append(' ');
        b.lay(0, many(place, "0") + " 1 " + many(size - 1 - place, "0"));
        b.due(size, "encode", 0, 0, 1);
        b.dueRow(1, word.toString());
        b.due(size, "soften", 1, 1, 1);
        b.due(0, "decode", 0, 1, 2);
        b.dueRow(2, told(b.row(0)));
        if (place % 5 == 4) b = new Bench();
        if (place % 5 == 4) b.due(0, "splits", power, size, 8, false);
      }
    }
    says("the last open place has the sum modulo 2 of the others then");
    Bench b = new Bench();
    b.due(0, "splits", 2, 2, 8, true);
    b.due(1, "splits", 2, 4, 8, true);
    word(b, "0", "0 0 0 0");
    // the places 2 and 3 are open
    word(b, "1", "0 1 0 1");
    b.lay(0, "1 1 1");
    b.due(4, "encode", 1, 0, 1);
    b.dueRow(1, "0 0 0 1");
    b.lay(0, "1 1 0");
    b.due(4, "encode", 1, 0, 1);
    b.dueRow(1, "0 1 0 0");
    says("the lesser amount, with the sign of the product, 0 if one is 0");
    Bench two = new Bench();
    two.due(0, "splits", 1, 1, 8, false);
    // the place 0 is shut: it costs what speaks for 1 there
    int[][] pairs = {{5, 3, 0}, {-5, -3, 0}, {5, -3, 3}, {-5, 3, 3}, {3, -5, 3}, {0, -5, 0}, {-5, 0, 0}, {0, 0, 0}, {999, -999, 999}};
    for (int[] pair : pairs) {
      two.lay(0, pair[0] + " " + pair[1]);
      two.due(pair[2], "decode", 0, 0, 1);
      two.dueRow(1, pair[0] + pair[1] < 0 ? "1" : "0");
    }
    says("costs of the greatest numbers");
    Bench far = new Bench();
    far.due(0, "splits", 4, 1, 8, false);
    far.lay(0, many(8, "999 -999"));
    far.does("decode", 0, 0, 1);
    far.lay(0, many(16, "-999"));
    far.due(0, "decode", 0, 0, 1);
    far.dueRow(1, "1");
  }

  private static void splitLists() {
    says("of all rows then those with the least costs together stay, as many as the list");
    Bench b = new Bench();
    b.due(0, "splits", 1, 2, 8, true);
    // 1 0 costs 0, 0 1 costs 3, 0 0 costs 5, 1 1 costs 8
    b.lay(0, "-5 3").lay(1, "77");
    b.refused(NONE, "decodeSplits", 0, 0, 1, 1);
    b.refused(NONE, "decodeSplits", 0, 0, 2, 1);
    b.due(5, "decodeSplits", 0, 0, 3, 1);
    b.due(5, "decodeSplits", 0, 0, 4, 1);
    b.dueRow(1, "0");
    says("of the same those with 0 ahead of 1 in the first place unlike");
    Bench open = new Bench();
    open.due(0, "splits", 4, 16, 8, false);
    open.due(1, "splits", 4, 16, 8, true);
    open.lay(0, many(16, "0"));
    for (int list = 1; list <= 4; list++) {
      open.due(0, "decodeSplits", 0, 0, list, 1);
      open.dueRow(1, many(16, "0"));
      open.due(0, "decodeSplits", 1, 0, list, 1);
      open.dueRow(1, many(15, "0"));
    }
    says("otherwise it gives up: two rows with the same costs, of which the list has room for one");
    Bench alike = new Bench();
    alike.due(0, "splits", 1, 2, 8, true);
    // 0 1 and 1 1 cost 0, 0 0 and 1 0 cost 1
    alike.lay(0, "0 -1");
    alike.refused(NONE, "decodeSplits", 0, 0, 1, 1);
    alike.refused(NONE, "decode", 0, 0, 1);
    for (int list = 2; list <= 4; list++) {
      alike.due(0, "decodeSplits", 0, 0, list, 1);
      alike.dueRow(1, "1");
    }
    says("split codes with a list of 1");
    Bench greedy = new Bench();
    greedy.due(0, "splits", 3, 4, 8, false);
    greedy.lay(0, "-2 -1 -1 0 3 -2 -1 -3");
    greedy.due(3, "decode", 0, 0, 1);
    greedy.dueRow(1, "0 0 0 1");
    greedy.due(3, "decodeSplits", 0, 0, 1, 1);
    greedy.dueRow(1, "0 0 0 1");
    greedy.due(2, "decodeSplits", 0, 0, 2, 1);
    greedy.dueRow(1, "1 0 1 1");
    greedy.due(2, "decodeSplits", 0, 0, 4, 1);
    greedy.dueRow(1, "1 0 1 1");
  }

  // ---- products

  private static void products() {
    says("Goes end behind one in which nothing was flipped, which counts");
    Bench b = new Bench();
    b.due(0, "product");
    b.lay(0, many(16, "0"));
    b.due(49, "encode", 0, 0, 1);
    b.due(1, "decode", 0, 1, 2);
    b.dueRow(2, many(16, "0"));
    b.lay(1, many(49, "1"));
    b.due(1, "decode", 0, 1, 2);
    b.dueRow(2, many(16, "1"));
    says("has the bit flipped at the place that is the sum of the powers of 2 that are odd: each place of the 49");
    for (int place = 0; place < 49; place++) {
      Bench one = new Bench();
      one.due(0, "product");
      one.lay(1, many(place, "0") + " 1 " + many(48 - place, "0"));
      one.due(2, "decode", 0, 1, 1);
      one.dueRow(1, many(16, "0"));
    }
    says("The four message rows are at the rows 3, 5, 6 and 7; columns are such rows, too");
    for (int place = 0; place < 16; place++) {
      Bench one = new Bench();
      one.due(0, "product");
      one.lay(0, many(place, "0") + " 1 " + many(15 - place, "0"));
      one.due(49, "encode", 0, 0, 1);
      int row = new int[] {3, 5, 6, 7}[place / 4];
      int column = new int[] {3, 5, 6, 7}[place % 4];
      StringBuilder word = new StringBuilder();
      for (int i = 1; i <= 7; i++) for (int j = 1; j <= 7; j++) word.append(isSetBy(i, row) && isSetBy(j, column) ? "1 " : "0 ");
      one.dueRow(1, word.toString());
      one.due(1, "decode", 0, 1, 2);
      one.dueRow(2, told(one.row(0)));
    }
    says("If all rows and columns are even then, the goes done are told");
    b.lay(1, many(14, "1") + " " + many(35, "0"));
    b.does("decode", 0, 1, 2);
    b.lay(1, many(7, "1 0 0 0 0 0 0"));
    b.due(1 + 1, "decode", 0, 1, 2);
    b.dueRow(2, many(16, "0"));
  }

  /** Whether a place of seven is 1 if of the message's four only one is: this one itself, and the powers of 2 in it. */
  private static boolean isSetBy(int place, int only) {
    return place == only || (place == 1 || place == 2 || place == 4) && (only & place) != 0;
  }

  // ---- drops

  private static void degrees() {
    says("the first draw modulo 16 tells its degree, at most the number of pieces");
    int[] degrees = {1, 2, 2, 2, 2, 2, 2, 2, 3, 3, 3, 3, 4, 4, 5, 12};
    for (int pieces = 1; pieces <= 12; pieces++) {
      for (int half = 0; half < 2; half++) {
        // of the pieces 0 to 5, then of the others, each has a bit of its own
        StringBuilder row = new StringBuilder();
        for (int i = 0; i < pieces; i++) row.append(i / 6 == half ? 1 << i % 6 : 0).append(' ');
        Bench b = new Bench();
        b.lay(0, row.toString());
        b.due(pieces, "source", 0);
        for (int drawn = 0; drawn < 16; drawn++) {
          for (int seed = 0, found = 0; found < 3; seed++) {
            if (Model.draws(seed, 1)[0] % 16 != drawn) continue;
            found++;
            b.due(setDrawn(seed, Math.min(degrees[drawn], pieces), pieces) >> 6 * half & 63, "drop", seed);
          }
        }
      }
    }
  }

  /** The pieces that further draws tell until there are as many unlike ones. */
  private static int setDrawn(int seed, int degree, int pieces) {
    int set = 0;
    int[] told = Model.draws(seed, 500);
    for (int i = 1; Integer.bitCount(set) < degree; i++) set |= 1 << told[i] % pieces;
    return set;
  }

  private static void keptDrops() {
    says("Drops that came are kept, at most 30");
    Bench b = new Bench();
    b.lay(0, "1 2 4 8 16 32 64 128");
    b.due(8, "source", 0);
    for (int i = 1; i <= 30; i++) b.due(i, "come", 1000 + i, false);
    b.refused(STATE, "come", 1, true);
    b.does("solved");
    b.does("peeled");
    b.due(true, "isSound");
    says("the last one of 30 is kept, too");
    Bench last = new Bench();
    last.lay(0, "7");
    last.due(1, "source", 0);
    for (int i = 1; i <= 29; i++) last.due(i, "come", i, false);
    last.due(1, "solved");
    last.due(30, "come", 30, true);
    last.due(-1, "solved");
    says("A source has 1 to 12 pieces, numbers from 0 to 255");
    last.lay(0, "0 255 0 255 0 255 0 255 0 255 0 255");
    last.due(12, "source", 0);
    last.due(0, "solved");
    last.due(1, "come", 0, false);
  }

  /** A seed whose drop is of just these pieces, each of which has a bit of its own. */
  private static int seedOf(int set, int pieces) {
    int[] degrees = {1, 2, 2, 2, 2, 2, 2, 2, 3, 3, 3, 3, 4, 4, 5, 12};
    for (int seed = 0; seed < 100000; seed++) {
      int degree = Math.min(degrees[Model.draws(seed, 1)[0] % 16], pieces);
      if (degree == Integer.bitCount(set) && setDrawn(seed, degree, pieces) == set) return seed;
    }
    throw new AssertionError("no seed");
  }

  private static void peeling() {
    says("By peeling, a drop of which all pieces but one are known tells this one, again and again");
    Bench b = new Bench();
    b.lay(0, "1 2 4 8 16");
    b.due(5, "source", 0);
    b.due(0, "peeled");
    b.due(0, "solved");
    // the last drop that comes tells one piece, from which all drops ahead of it tell the others, backwards
    for (int i = 0; i < 4; i++) {
      b.due(i + 1, "come", seedOf(3 << i, 5), false);
      b.due(0, "peeled");
      b.due(0, "solved");
      b.refused(NONE, "piece", i);
    }
    b.due(5, "come", seedOf(16, 5), false);
    b.due(5, "peeled");
    b.due(5, "solved");
    for (int i = 0; i < 5; i++) b.due(1 << i, "piece", i);
    says("By peeling: the first drop alone, and 30 of which the last one tells first");
    Bench first = new Bench();
    first.lay(0, "9 8");
    first.due(2, "source", 0);
    first.due(1, "come", seedOf(2, 2), false);
    first.due(1, "peeled");
    first.due(2, "come", seedOf(3, 2), false);
    first.due(2, "peeled");
    Bench all = new Bench();
    all.lay(0, "1 2 4 8 16 32 64 128 0 0 0 0");
    all.due(12, "source", 0);
    int came = 0;
    for (int i = 0; i < 18; i++) all.due(++came, "come", seedOf(3, 12), false);
    for (int i = 1; i < 11; i++) all.due(++came, "come", seedOf(3 << i, 12), false);
    all.due(29, "come", seedOf(3, 12), false);
    all.due(0, "peeled");
    all.due(30, "come", seedOf(1 << 11, 12), false);
    all.due(12, "peeled");
    all.due(12, "solved");
    all.due(true, "isSound");
    says("What is told by all drops together is what follows of their sums");
    Bench sums = new Bench();
    sums.lay(0, "1 2 4 8 16");
    sums.due(5, "source", 0);
    sums.due(1, "come", seedOf(3, 5), false);
    sums.due(2, "come", seedOf(6, 5), false);
    sums.due(0, "solved");
    sums.due(3, "come", seedOf(7, 5), false);
    sums.due(0, "peeled");
    sums.due(3, "solved");
    sums.due(1, "piece", 0);
    sums.due(2, "piece", 1);
    sums.due(4, "piece", 2);
    sums.refused(NONE, "piece", 3);
    sums.refused(NONE, "piece", 4);
    sums.refused(INDEX, "piece", 5);
    sums.due(4, "come", seedOf(7, 5), false);
    sums.due(3, "solved");
    sums.due(5, "come", seedOf(5, 5), true);
    sums.due(-1, "solved");
    sums.due(0, "peeled");
    sums.refused(NONE, "piece", 0);
    sums.due(true, "isSound");
  }

  // ---- noise

  private static void noiseOdds() {
    says("with a draw, modulo 1000, below the odds");
    // modulo 1000 the first draw of 0 is 0, that of 1 is 838
    int[][] edges = {{0, 0, 0}, {0, 1, 1}, {1, 838, 0}, {1, 839, 1}, {1, 0, 0}, {1, 1000, 1}};
    for (int[] edge : edges) {
      for (char kind : "fhdb".toCharArray()) {
        Bench b = new Bench();
        b.lay(0, "6");
        b.due(edge[2], "noise", 0, kind, edge[1], 5, edge[0]);
        b.dueRow(0, edge[2] == 0 ? "6" : kind == 'h' ? "5" : kind == 'd' ? "3" : "-6");
      }
    }
  }

  private static void noiseKinds() {
    says("'f' in a row that is of bits as the noise begins, the bit is the other one, in another row the number is taken off 0");
    noised('f', 0, "0 1 1 0", "1 0 0 1", 4);
    noised('f', 0, "0", "1", 1);
    noised('f', 0, "0 1 2", "0 -1 -2", 2);
    noised('f', 0, "-1 0 1", "1 0 -1", 2);
    noised('f', 0, "1 1 1 -1", "-1 -1 -1 1", 4);
    noised('f', 0, "999 -999", "-999 999", 2);
    noised('f', 0, "0 0 0 5", "0 0 0 -5", 1);
    says("'h' it becomes the hole told, a number");
    noised('h', 999, "0 999 -999", "999 999 999", 2);
    noised('h', -999, "-999 -999", "-999 -999", 0);
    noised('h', 0, "0 1 -1", "0 0 0", 2);
    says("'d' it is halved, cut");
    noised('d', 0, "1 -1 2 -2 3 -3 0", "0 0 1 -1 1 -1 0", 6);
    noised('d', 0, "999 -999 998 -998", "499 -499 499 -499", 4);
    noised('d', 0, "0 1 1", "0 0 0", 2);
    says("Of each number of a row: of none, if it is empty");
    for (char kind : "fhdb".toCharArray()) noised(kind, 7, "", "", 0);
  }

  private static void noised(char kind, int hole, String row, String want, int changed) {
    Bench b = new Bench();
    b.lay(0, row);
    b.due(changed, "noise", 0, kind, 1000, hole, 99999);
    b.dueRow(0, want);
  }

  private static void bursts() {
    says("'b': where it is so, and in the three numbers behind, it is as 'f', and these are not drawn for");
    // modulo 1000 the draws of 0 are 0 468 988 117 498 927
    for (int size = 0; size <= 9; size++) {
      Bench b = new Bench();
      b.lay(0, many(size, "5"));
      b.due(Math.min(size, 4), "noise", 0, 'b', 1, 0, 0);
      b.dueRow(0, many(Math.min(size, 4), "-5") + " " + many(Math.max(0, size - 4), "5"));
    }
    Bench b = new Bench();
    b.lay(0, many(14, "5"));
    b.due(12, "noise", 0, 'b', 469, 0, 0);
    b.dueRow(0, many(8, "-5") + " 5 " + many(4, "-5") + " 5");
    b.lay(0, many(14, "5"));
    b.due(10, "noise", 0, 'b', 468, 0, 0);
    b.dueRow(0, many(4, "-5") + " 5 5 " + many(4, "-5") + " 5 5 -5 -5");
    b.lay(0, many(64, "1"));
    b.due(64, "noise", 0, 'b', 1000, 0, 0);
    b.dueRow(0, many(64, "0"));
    says("a burst in a row of bits, over its end");
    b.lay(0, "0 1 0 1 0");
    b.due(5, "noise", 0, 'b', 469, 0, 0);
    b.dueRow(0, "1 0 1 0 1");
    b.lay(0, "0 0 0 5 0");
    b.due(1, "noise", 0, 'b', 1, 0, 0);
    b.dueRow(0, "0 0 0 -5 0");
  }

  // ---- frames

  private static String maskOf(int many) {
    List<Integer> out = new ArrayList<>();
    for (int z : Model.draws(77, many)) out.add(z % 2);
    return told(out);
  }

  private static void frames() {
    says("A frame of a type, 0 to 3, has a row of 1 to 28 bits");
    for (int type = 0; type <= 3; type++) {
      for (int length : new int[] {1, 2, 15, 16, 27, 28}) {
        Bench b = new Bench();
        b.lay(0, many(length, "0"));
        b.due(length + 36, "frame", type, 0, 1);
        StringBuilder header = new StringBuilder();
        for (int z : numbers(bits(type << 6 | length, 8))) header.append(many(3, "" + z)).append(' ');
        b.dueRow(1, SYNC + " " + header + maskOf(length) + " 0 0 0 0");
        b.due(0, "sync", 1, 0);
        b.due(type, "read", 1, 0, 2);
        b.dueRow(2, many(length, "0"));
      }
    }
    says("each bit i, from 0 on, added modulo 2 to the draw i plus 1 of the seed 77");
    Bench b = new Bench();
    b.lay(0, "1");
    b.due(37, "frame", 0, 0, 1);
    // the first draw is 18597
    b.dueRow(1, SYNC + " " + many(21, "0") + " 1 1 1 0 0 0 1 1");
    b.lay(0, "0");
    b.due(37, "frame", 0, 0, 1);
    b.dueRow(1, SYNC + " " + many(21, "0") + " 1 1 1 1 0 0 0 0");
    says("two frames behind one another are both read");
    Bench two = new Bench();
    two.lay(0, "1 0").lay(1, "1");
    two.due(38, "frame", 3, 0, 2);
    String first = told(two.row(2));
    two.due(0, "sync", 2, 0);
    two.lay(2, "0 0 " + first + " 1 1 1");
    two.due(2, "sync", 2, 0);
    two.due(3, "read", 2, 2, 3);
    two.dueRow(3, "1 0");
  }

  /** The rest by division of the row, with four 0 behind, by 1 0 0 1 1. */
  private static String restOf(List<Integer> row) {
    List<Integer> left = new ArrayList<>(row);
    for (int i = 0; i < 4; i++) left.add(0);
    for (int i = 0; i < row.size(); i++) {
      if (left.get(i) == 0) continue;
      int[] divisor = {1, 0, 0, 1, 1};
      for (int j = 0; j < 5; j++) left.set(i + j, left.get(i + j) ^ divisor[j]);
    }
    return told(left.subList(row.size(), row.size() + 4));
  }

  private static void rests() {
    says("and a rest of 4 bits of the row as it was");
    String[] known = {"1", "1 0", "1 0 0", "1 0 0 0", "1 " + many(14, "0"), "1 " + many(15, "0"), "1 0 0 1 1", "1 " + many(14, "0") + " 1"};
    String[] rests = {"0 0 1 1", "0 1 1 0", "1 1 0 0", "1 0 1 1", "1 0 0 0", "0 0 1 1", "0 0 0 0", "0 0 0 0"};
    for (int i = 0; i < known.length; i++) {
      Check.same("the rest of " + known[i], restOf(numbers(known[i])), rests[i]);
      restIs(known[i], rests[i]);
    }
    for (int length = 1; length <= 28; length++) {
      for (String row : messages(length)) restIs(row, restOf(numbers(row)));
    }
  }

  private static void restIs(String row, String rest) {
    Bench b = new Bench();
    b.lay(0, row);
    int length = numbers(row).size();
    b.due(length + 36, "frame", 0, 0, 1);
    Check.same("the rest of " + row, told(b.row(1).subList(length + 32, length + 36)), rest);
    b.due(0, "read", 1, 0, 2);
    b.dueRow(2, row);
  }

  private static void majorities() {
    says("Headers are read by majorities");
    for (int bit = 0; bit < 8; bit++) {
      for (int flips = 0; flips < 8; flips++) {
        Bench b = new Bench();
        b.lay(0, "1 0 1 1 0");
        b.due(41, "frame", 2, 0, 1);
        List<Integer> row = b.row(1);
        for (int i = 0; i < 3; i++) if ((flips >> i & 1) == 1) row.set(8 + 3 * bit + i, 1 - row.get(8 + 3 * bit + i));
        b.lay(2, told(row));
        if (Integer.bitCount(flips) < 2) {
          b.due(2, "read", 2, 0, 3);
          b.dueRow(3, "1 0 1 1 0");
        } else if (bit < 2) {
          b.due(bit == 0 ? 0 : 3, "read", 2, 0, 3);
        } else {
          // the length 5 becomes 37, 21, 13, 1, 7 or 4
          Object got = b.does("read", 2, 0, 3);
          Check.is("another length is not read as this one", got == (bit < 5 ? UNFIT : bit == 6 ? UNFIT : NONE));
        }
      }
    }
  }

  // ---- asking again

  private static void requestLengths() {
    says("to whose end the rest of 4 bits is put, 16 bits at most together");
    for (int memory = 1; memory <= 4; memory++) {
      for (char end : "tb".toCharArray()) {
        for (int length : new int[] {Math.max(1, memory), 12}) {
          Bench b = new Bench();
          b.due(0, "shift", memory, 1 << memory, (2 << memory) - 1, 0, end, 15);
          b.lay(0, messages(length)[2]);
          b.due(0, "request", 0, 0);
          b.due(true, "send", 0, 0, 'f', 0, 0);
          b.due(0, "unseen");
          b.due(1, "sendings", 0);
          b.due(true, "isSound");
        }
      }
    }
    says("numbers that were put behind the request do not change its message");
    Bench b = new Bench();
    b.due(0, "shift", 2, 7, 5, 0, 't', 15);
    b.lay(0, "1 0 1 1 0");
    b.due(0, "request", 0, 0);
    b.lay(0, "1");
    b.due(true, "send", 0, 0, 'f', 0, 0);
    b.due(0, "unseen");
  }

  /** A request of a message whose bits 11, 14 and 15 are 1, by a code that tells each bit as it is. */
  private static Bench eleventh(int generators, String holes) {
    Bench b = new Bench();
    b.lay(15, holes);
    b.due(0, "shift", 1, 2, 2, generators == 3 ? 2 : 0, 't', 15);
    b.lay(0, many(11, "0") + " 1");
    for (int i = 0; i < 4; i++) b.due(i, "request", 0, 0);
    return b;
  }

  private static void versions() {
    says("The versions 0 to 3 have the holes turned to the left by as many times the generators as the version");
    // of the steps 0 to 5, again and again, 0 is told, then 5, 4, 3; where only 0 is heard the message of 0 is accepted
    Bench b = eleventh(2, "1 0 0 0 0 0 0 0 0 0 0 0");
    boolean[] isAccepted = {true, false, true, false};
    for (int version = 0; version < 4; version++) b.due(isAccepted[version], "send", version, version, 'f', 0, 0);
    b.due(2, "unseen");
    // of the steps 0 to 3 with three numbers each, 0 is told, then 3, 2, 1
    b = eleventh(3, "1 0 0 0 0 0 0 0 0 0 0 0");
    isAccepted = new boolean[] {true, false, false, true};
    for (int version = 0; version < 4; version++) b.due(isAccepted[version], "send", version, version, 'f', 0, 0);
    says("turned by as many places as there are, they are as at first");
    b = eleventh(2, "1 0 0 0");
    int[][] orders = {{0, 2, 0, 1}, {1, 3, 1, 2}, {2, 2, 0, 3}, {3, 1, 3, 0}};
    for (int request = 0; request < 4; request++) {
      for (int i = 0; i < 4; i++) b.due(i == 3, "send", request, orders[request][i], 'f', 0, i);
    }
    b.due(0, "unseen");
    says("without holes all versions are the word");
    b = eleventh(2, "");
    for (int version = 0; version < 4; version++) b.due(true, "send", version, version, 'f', 0, 0);
    b.due(0, "unseen");
    b = eleventh(2, "1 0");
    for (int version = 0; version < 4; version++) b.due(true, "send", version, version, 'f', 0, 0);
    b.due(0, "unseen");
    says("a version that has no numbers tells nothing");
    Bench none = new Bench();
    none.lay(15, "0 0 0 0 0 0 0 0 0 0 0 1");
    none.due(0, "shift", 1, 2, 2, 0, 'b', 15);
    none.lay(0, "1");
    none.due(0, "request", 0, 0);
    none.due(true, "send", 0, 0, 'f', 1000, 0);
    none.due(1, "unseen");
  }

  private static void sums() {
    says("What is sent of a version is soft, 9 or -9, comes with noise, and is added to what is known of its outputs, 0 at first");
    Bench b = eleventh(2, "");
    // all the other way round is -9, and halves of 9 are 4 each, so that three of them are needed
    b.due(false, "send", 0, 0, 'f', 1000, 0);
    b.due(false, "send", 0, 1, 'd', 1000, 0);
    b.due(false, "send", 0, 2, 'd', 1000, 0);
    b.due(true, "send", 0, 3, 'd', 1000, 0);
    b.due(0, "unseen");
    b.due(4, "sendings", 0);
    says("holes are 0");
    b.due(false, "send", 1, 0, 'f', 1000, 0);
    b.due(false, "send", 1, 0, 'h', 1000, 0);
    b.due(true, "send", 1, 0, 'f', 0, 0);
    says("each of 9 and -9 together is 0, with which the message of 0 is the best one");
    b.due(1, "unseen");
    b.due(3, "sendings", 1);
    // -9 and twice 4 together are -1, which a hole leaves so
    b.due(false, "send", 2, 0, 'f', 1000, 0);
    b.due(false, "send", 2, 0, 'd', 1000, 0);
    b.due(false, "send", 2, 0, 'd', 1000, 0);
    b.due(false, "send", 2, 0, 'h', 1000, 0);
    b.due(false, "send", 2, 0, 'h', 1000, 0);
    b.due(true, "send", 2, 0, 'f', 0, 0);
    b.due(1, "unseen");
    b.due(6, "sendings", 2);
    says("what is known of one request is not known of another one");
    b = eleventh(2, "");
    b.due(false, "send", 2, 0, 'f', 1000, 0);
    b.due(true, "send", 3, 0, 'f', 0, 0);
    b.due(0, "unseen");
  }

  private static void unseenErrors() {
    says("It counts as unseen error if it is not the one that was sent");
    Bench b = new Bench();
    b.due(0, "shift", 2, 7, 5, 0, 't', 15);
    b.lay(0, "1 0 1 1 0").lay(1, "0 0 0 0 0");
    b.due(0, "request", 0, 0);
    b.due(1, "request", 0, 1);
    b.due(2, "request", 0, 0);
    b.due(true, "send", 0, 0, 'f', 0, 0);
    b.due(0, "unseen");
    b.due(true, "send", 1, 0, 'h', 1000, 0);
    b.due(0, "unseen");
    b.due(true, "send", 2, 0, 'h', 1000, 0);
    b.due(1, "unseen");
    b.due(true, "isSound");
    b.refused(UNFIT, "send", 2, 0, 'h', 1000, 0);
    b.due(1, "unseen");
  }

  /** The rates behind each of these sendings, a to be accepted, r to be refused; nothing but the other way round is refused. */
  private static String ratesOf(String sendings) {
    Bench b = new Bench();
    b.due(0, "shift", 1, 2, 2, 0, 't', 15);
    b.lay(0, many(11, "0") + " 1");
    for (int i = 0; i < 8; i++) b.due(i, "request", 0, 0);
    StringBuilder out = new StringBuilder();
    int accepted = 0;
    int refused = 0;
    for (char c : sendings.toCharArray()) {
      if (c == 'a') b.due(true, "send", accepted++, 0, 'f', 0, 0);
      else b.due(false, "send", 7 - refused++ / 6, 0, 'f', 1000, 0);
      out.append(b.does("rate"));
    }
    return out.toString();
  }

  private static void rates() {
    says("The rate is from 0 to 3, 0 at first");
    Check.same("no sendings", new Trellisworks().rate(), 0);
    says("Behind three accepted sendings in a row since it changed, or since the last one that was not, it becomes 1 more");
    Check.same("two", ratesOf("aa"), "00");
    Check.same("three", ratesOf("aaa"), "001");
    Check.same("since it changed", ratesOf("aaaaaaa"), "0011122");
    Check.same("since the last one that was not", ratesOf("aaraaa"), "000001");
    Check.same("behind one that was not", ratesOf("raaa"), "0001");
    Check.same("not counted on", ratesOf("aaaaaraa"), "00111111");
    says("behind two in a row that were not, 1 less");
    Check.same("one", ratesOf("aaar"), "0011");
    Check.same("two", ratesOf("aaarr"), "00110");
    Check.same("not in a row", ratesOf("aaarar"), "001111");
    Check.same("three are one less", ratesOf("aaaaaarrr"), "001112211");
    Check.same("four are two less", ratesOf("aaaaaarrrr"), "0011122110");
    says("within its bounds, at which the counting begins anew, too");
    Check.same("at 0", ratesOf("rr"), "00");
    Check.same("far at 0", ratesOf("rrrrr"), "00000");
    Check.same("up from 0", ratesOf("rraaa"), "00001");
    Check.same("down again", ratesOf("rrraaarr"), "00000110");
    Check.same("below 0 is none", ratesOf("aaarrrraaa"), "0011000001");
  }

  private static void seedsCompared() {
    says("the first of 10 seeds");
    int last = -1;
    for (int seed = 20; last < 0; seed++) {
      boolean isAlone = first(seed) < 30;
      for (int i = 1; i <= 11; i++) if (first(seed - i) < 30) isAlone = false;
      if (isAlone) last = seed;
    }
    Bench b = new Bench();
    b.due(0, "splits", 1, 2, 8, true);
    // the list of 1 gives up if the first number is taken off 0, and else not
    b.lay(0, "5 3");
    b.due(last, "compare", 0, 0, 'f', 30, last);
    b.due(last, "compare", 0, 0, 'f', 30, last - 1);
    b.due(last, "compare", 0, 0, 'f', 30, last - 9);
    b.due(-1, "compare", 0, 0, 'f', 30, last - 10);
    b.dueRow(0, "5 3");
    says("holes are 0");
    // of 0 -3 a list of 1 tries 0 first, of which the check is wrong then; 5 -3 and 1 -3 begin with 1, of which it is right
    b.lay(0, "5 -3");
    b.due(0, "compare", 0, 0, 'h', 1, 0);
    b.lay(0, "0 0");
    b.due(-1, "compare", 0, 0, 'h', 1000, 99999);
  }

  private static void comparedGraphs() {
    says("of a graph code in 10 rounds by 'f' and by 'c', not damped: just one gives up, or both tell unlike words");
    // 'f' settles in round 10, or in 11, where 'c' does not in 20; then the other way round
    comparedGraph(3, 3, "0-0 0-1 1-0 1-1 1-2 2-0 2-1 2-2", "7 -9 -5", 10, 0, true);
    comparedGraph(4, 3, "0-0 0-1 0-3 1-0 1-1 1-2 1-3 2-1 2-2 2-3", "-11 4 -12 11", 11, 0, false);
    comparedGraph(5, 3, "0-0 0-1 0-2 0-3 0-4 1-1 1-4 2-0 2-1 2-4", "9 -4 -7 3 2", 0, 10, true);
    comparedGraph(3, 3, "0-1 0-2 1-1 1-2 2-0 2-1 2-2", "-12 -4 5", 0, 11, false);
    // unlike words; then the same word in other rounds
    comparedGraph(4, 2, "0-0 0-2 1-0 1-2 1-3", "-9 11 -2 -10", 2, 1, true);
    comparedGraph(3, 2, "0-0 0-1 0-2 1-1 1-2", "9 -6 8", 3, 1, false);
    says("of a split code with lists of 1 and 4");
    Bench b = new Bench();
    b.due(0, "splits", 1, 2, 8, true);
    b.due(1, "splits", 3, 4, 8, false);
    // a list of 2 finds what a list of 1 does not
    b.lay(0, "0 -1");
    b.due(7, "compare", 0, 0, 'f', 0, 7);
    // a list of 3 does
    b.lay(0, "-5 3");
    b.due(7, "compare", 0, 0, 'f', 0, 7);
    // both tell a word, but not the same one
    b.lay(0, "-2 -1 -1 0 3 -2 -1 -3");
    b.due(7, "compare", 1, 0, 'f', 0, 7);
    b.lay(0, "1 1 1 1 1 1 1 1");
    b.due(-1, "compare", 1, 0, 'f', 0, 7);
  }

  private static void comparedGraph(int bits, int checks, String edges, String row, int atOnce, int byCheck, boolean isUnlike) {
    Bench b = graph(bits, checks, edges);
    b.lay(0, row);
    b.due(atOnce == 0 ? NONE : atOnce, "decodeGraph", 0, 0, 20, 'f', false, 1);
    b.due(byCheck == 0 ? NONE : byCheck, "decodeGraph", 0, 0, 20, 'c', false, 1);
    for (char kind : "fhdb".toCharArray()) b.due(isUnlike ? 5 : -1, "compare", 0, 0, kind, 0, 5);
    b.dueRow(0, row);
  }

  private static int first(int seed) {
    return Model.draws(seed, 1)[0] % 1000;
  }
}
