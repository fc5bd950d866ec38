import java.util.ArrayList;
import java.util.List;
import java.util.NoSuchElementException;

/** Promise by promise: ordinary inputs, the edges that the document names, and wrong inputs. */
public final class PromisesTest {
  private static final Class<?> INDEX = IndexOutOfBoundsException.class;
  private static final Class<?> ARGUMENT = IllegalArgumentException.class;
  private static final Class<?> STATE = IllegalStateException.class;
  private static final Class<?> UNFIT = UnsupportedOperationException.class;
  private static final Class<?> NONE = NoSuchElementException.class;
  private static final Class<?> ARITHMETIC = ArithmeticException.class;

  /** The first draws of the seed 1, as the C standard's rand tells them too. */
  private static final int[] DRAWS_OF_1 = {16838, 5758, 10113, 17515, 31051, 5627, 23010, 7419, 16212, 4086};

  interface Call {
    Object of(Trellisworks x);
  }

  private static int promise = 0;

  public static void main(String[] args) {
    newObject();
    shelves();
    soften();
    noise();
    roots();
    shift();
    twins();
    graph();
    splits();
    product();
    kinds();
    encodeWrong();
    decodeRoots();
    decodeShift();
    decodeSplitsAndProducts();
    decodeWrong();
    decodeList();
    early();
    decodeTwins();
    decodeGraph();
    decodeSplits();
    isOpen();
    ringsOfFour();
    traps();
    weight();
    allows();
    source();
    drop();
    come();
    peeled();
    solved();
    frame();
    sync();
    read();
    request();
    send();
    sendings();
    unseen();
    rate();
    compare();
    acceptedShare();
    mean();
    isSound();
    Check.end();
  }

  // ---- what the tests are said with

  private static void due(String what, Object got, Object want) {
    Check.same("promise " + promise + ": " + what, got, want);
  }

  private static Trellisworks works() {
    return new Trellisworks();
  }

  private static void lay(Trellisworks x, int shelf, int... row) {
    x.clear(shelf);
    for (int z : row) x.put(shelf, z);
  }

  private static void layWord(Trellisworks x, int shelf, String row) {
    x.clear(shelf);
    for (String z : row.trim().split("\\s+")) if (!z.isEmpty()) x.put(shelf, Integer.parseInt(z));
  }

  private static String row(Trellisworks x, int shelf) {
    StringBuilder out = new StringBuilder();
    for (int i = 0; i < x.size(shelf); i++) out.append(i == 0 ? "" : " ").append(x.at(shelf, i));
    return out.toString();
  }

  private static Object answer(Trellisworks x, Call call) {
    try {
      return call.of(x);
    } catch (RuntimeException e) {
      return e.getClass();
    }
  }

  /** A call must throw just this; that it changes nothing is looked at by EdgesTest. */
  private static void refused(String what, Trellisworks x, Class<?> want, Call call) {
    due(what, answer(x, call), want);
  }

  // ---- the promises

  private static void newObject() {
    promise = 1;
    Trellisworks x = works();
    for (int i = 0; i < 16; i++) due("shelf " + i, x.size(i), 0);
    refused("no code", x, INDEX, y -> y.kindOf(0));
    refused("no request", x, INDEX, y -> y.sendings(0));
    refused("no source to peel", x, NONE, y -> y.peeled());
    refused("no source to solve", x, NONE, y -> y.solved());
    refused("no piece", x, INDEX, y -> y.piece(0));
    due("unseen", x.unseen(), 0);
    due("rate", x.rate(), 0);
    due("sound", x.isSound(), true);
    Trellisworks other = works();
    other.put(0, 5);
    due("another object has its own shelves", x.size(0), 0);
  }

  private static void shelves() {
    promise = 2;
    Trellisworks x = works();
    due("first", x.put(0, -999), 1);
    due("second", x.put(0, 999), 2);
    due("last shelf", x.put(15, 0), 1);
    due("row", row(x, 0), "-999 999");
    refused("shelf 16", x, INDEX, y -> y.put(16, 1000));
    refused("shelf -1", x, INDEX, y -> y.put(-1, 0));
    refused("1000", x, ARGUMENT, y -> y.put(0, 1000));
    refused("-1000", x, ARGUMENT, y -> y.put(0, -1000));
    for (int i = 3; i <= 64; i++) due("number " + i, x.put(0, i), i);
    refused("a 65th", x, STATE, y -> y.put(0, 1));
    refused("a 65th out of range", x, ARGUMENT, y -> y.put(0, 1000));
    due("last number", x.at(0, 63), 64);
    promise = 3;
    due("a full shelf had", x.clear(0), 64);
    due("an empty one had", x.clear(0), 0);
    due("size behind", x.size(0), 0);
    due("other shelf stays", row(x, 15), "0");
    refused("shelf 16", x, INDEX, y -> y.clear(16));
    refused("shelf -1", x, INDEX, y -> y.clear(-1));
    promise = 4;
    due("empty", x.size(7), 0);
    x.put(7, 3);
    due("one", x.size(7), 1);
    refused("shelf 16", x, INDEX, y -> y.size(16));
    refused("least shelf", x, INDEX, y -> y.size(Integer.MIN_VALUE));
    promise = 5;
    lay(x, 3, 10, -20, 30);
    due("index 0", x.at(3, 0), 10);
    due("index 2", x.at(3, 2), 30);
    refused("index 3", x, INDEX, y -> y.at(3, 3));
    refused("index -1", x, INDEX, y -> y.at(3, -1));
    refused("index of an empty shelf", x, INDEX, y -> y.at(4, 0));
    refused("shelf 16", x, INDEX, y -> y.at(16, 0));
    refused("shelf -1", x, INDEX, y -> y.at(-1, 0));
  }

  private static void soften() {
    promise = 6;
    Trellisworks x = works();
    lay(x, 0, 0, 1, 1, 0);
    lay(x, 1, 5, 6, 7, 8, 9);
    due("many", x.soften(0, 99, 1), 4);
    due("takes the place of the row", row(x, 1), "99 -99 -99 99");
    due("the row stays", row(x, 0), "0 1 1 0");
    due("onto itself", x.soften(0, 1, 0), 4);
    due("softened", row(x, 0), "1 -1 -1 1");
    due("an empty row is of bits", x.soften(9, 5, 1), 0);
    due("and empties", x.size(1), 0);
    refused("from 16", x, INDEX, y -> y.soften(16, 0, 1));
    refused("to -1", x, INDEX, y -> y.soften(0, 0, -1));
    refused("strength 0 of no bits", x, ARGUMENT, y -> y.soften(0, 0, 1));
    refused("strength 100", x, ARGUMENT, y -> y.soften(9, 100, 1));
    refused("no bits", x, UNFIT, y -> y.soften(0, 5, 1));
    lay(x, 2, 0, 1, 2);
    refused("a 2 at the end", x, UNFIT, y -> y.soften(2, 5, 1));
  }

  private static void noise() {
    promise = 7;
    Trellisworks x = works();
    // modulo 1000 the draws of the seed 1 are 838 758 113 515 51 627 10 419 212 86
    layWord(x, 0, "0 1 0 1 0 1 0 1 0 1");
    due("flips below 114", x.noise(0, 'f', 114, 0, 1), 4);
    due("bits", row(x, 0), "0 1 1 1 1 1 1 1 0 0");
    layWord(x, 0, "0 1 0 1 0 1 0 1 0 1");
    due("113 is not below 113", x.noise(0, 'f', 113, 0, 1), 3);
    layWord(x, 0, "5 -7 9 0 0 3 2 1 1 1");
    due("taken off 0, of which one stays", x.noise(0, 'f', 114, 0, 1), 3);
    due("soft", row(x, 0), "5 -7 -9 0 0 3 -2 1 1 -1");
    layWord(x, 0, "5 -7 9 7 -7 3 0 1 1 -1");
    due("halved", x.noise(0, 'd', 114, 0, 1), 3);
    due("cut", row(x, 0), "5 -7 4 7 -3 3 0 1 1 0");
    layWord(x, 0, "5 -7 9 7 -7 3 0 1 1 -1");
    due("holes", x.noise(0, 'h', 114, -1, 1), 3);
    due("holed", row(x, 0), "5 -7 -1 7 -1 3 -1 1 1 -1");
    layWord(x, 0, "1 2 3 4 5 6 7 8 9 10 11 12");
    due("bursts", x.noise(0, 'b', 114, 0, 1), 8);
    due("the three behind are not drawn for", row(x, 0), "1 2 -3 -4 -5 -6 7 -8 -9 -10 -11 12");
    layWord(x, 0, "1 1 1 1");
    due("a burst ends with the row", x.noise(0, 'b', 114, 0, 1), 2);
    due("burst bits", row(x, 0), "1 1 0 0");
    layWord(x, 0, "0 0 0");
    due("odds 1000", x.noise(0, 'f', 1000, 0, 9), 3);
    due("a row of 0 is of bits", row(x, 0), "1 1 1");
    due("odds 0", x.noise(0, 'f', 0, 0, 9), 0);
    due("an empty row", x.noise(5, 'f', 1000, 0, 9), 0);
    layWord(x, 0, "1 1 1 1");
    due("first number by the first draw", x.noise(0, 'h', 839, 7, 1), 4);
    layWord(x, 0, "1 1 1 1");
    due("not below 838", x.noise(0, 'h', 838, 7, 1), 3);
    due("seed 99999", x.noise(0, 'h', 1000, 999, 99999), 4);
    refused("shelf 16", x, INDEX, y -> y.noise(16, 'x', -1, 1000, -1));
    refused("kind", x, ARGUMENT, y -> y.noise(0, 'x', 10, 0, 0));
    refused("odds -1", x, ARGUMENT, y -> y.noise(0, 'f', -1, 0, 0));
    refused("odds 1001", x, ARGUMENT, y -> y.noise(0, 'f', 1001, 0, 0));
    refused("hole 1000", x, ARGUMENT, y -> y.noise(0, 'f', 1000, 1000, 0));
    refused("hole -1000", x, ARGUMENT, y -> y.noise(0, 'h', 1000, -1000, 0));
    refused("seed -1", x, ARGUMENT, y -> y.noise(0, 'f', 1000, 0, -1));
    refused("seed 100000", x, ARGUMENT, y -> y.noise(0, 'f', 1000, 0, 100000));
  }

  private static Trellisworks tenCodes() {
    Trellisworks x = works();
    for (int i = 0; i < 10; i++) due("code " + i, x.product(), i);
    return x;
  }

  private static void roots() {
    promise = 8;
    Trellisworks x = works();
    due("first", x.roots(8, 5, 2), 0);
    due("second", x.roots(8, 1, 6), 1);
    due("third", x.roots(16, 9, 6), 2);
    due("fourth", x.roots(16, 13, 2), 3);
    due("kind", x.kindOf(3), 'r');
    for (int elements : new int[] {0, 2, 4, 7, 9, 15, 17, 32, -8}) refused("elements " + elements, x, ARGUMENT, y -> y.roots(elements, 1, 2));
    refused("checks 1", x, ARGUMENT, y -> y.roots(8, 3, 1));
    refused("checks 7", x, ARGUMENT, y -> y.roots(16, 3, 7));
    refused("message 0", x, ARGUMENT, y -> y.roots(8, 0, 3));
    refused("8 together", x, ARGUMENT, y -> y.roots(8, 6, 2));
    refused("16 together", x, ARGUMENT, y -> y.roots(16, 10, 6));
    refused("far too many", x, ARGUMENT, y -> y.roots(16, Integer.MAX_VALUE, 2));
    Trellisworks full = tenCodes();
    refused("an eleventh", full, STATE, y -> y.roots(8, 3, 2));
    refused("an eleventh out of range", full, ARGUMENT, y -> y.roots(8, 3, 1));
    promise = 16;
    for (int code = 0; code < 4; code++) {
      int[] elements = {8, 8, 16, 16};
      int[] message = {5, 1, 9, 13};
      int[] checks = {2, 6, 6, 2};
      x.clear(0);
      List<Integer> put = new ArrayList<>();
      for (int i = 0; i < message[code]; i++) {
        put.add((3 * i + 5) % elements[code]);
        x.put(0, put.get(i));
      }
      due("length", x.encode(code, 0, 1), message[code] + checks[code]);
      List<Integer> word = new ArrayList<>();
      for (int i = 0; i < x.size(1); i++) word.add(x.at(1, i));
      due("begins with its message", word.subList(0, message[code]), put);
      due("is 0 at the powers", Model.isRootWord(word, checks[code], elements[code]), true);
    }
    // the least code with its one word by hand: (x + a)(x + a a) is x x + 6 x + 3 over 16 elements
    x.roots(16, 1, 2);
    lay(x, 0, 1);
    x.encode(4, 0, 0);
    due("generator", row(x, 0), "1 6 8");
  }

  private static void shift() {
    promise = 9;
    Trellisworks x = works();
    due("first", x.shift(1, 3, 1, 0, 't', 0), 0);
    due("second", x.shift(4, 31, 1, 31, 'b', 15), 1);
    due("kind", x.kindOf(1), 'c');
    refused("shelf 16", x, INDEX, y -> y.shift(0, 0, 0, -1, 'x', 16));
    refused("shelf -1", x, INDEX, y -> y.shift(2, 7, 5, 0, 't', -1));
    refused("memory 0", x, ARGUMENT, y -> y.shift(0, 1, 1, 0, 't', 0));
    refused("memory 5", x, ARGUMENT, y -> y.shift(5, 1, 1, 0, 't', 0));
    refused("memory far", x, ARGUMENT, y -> y.shift(Integer.MAX_VALUE, 1, 1, 0, 't', 0));
    refused("first 0", x, ARGUMENT, y -> y.shift(2, 0, 1, 0, 't', 0));
    refused("first 8", x, ARGUMENT, y -> y.shift(2, 8, 1, 0, 't', 0));
    refused("second 0", x, ARGUMENT, y -> y.shift(2, 1, 0, 0, 't', 0));
    refused("second 8", x, ARGUMENT, y -> y.shift(2, 1, 8, 0, 't', 0));
    refused("third -1", x, ARGUMENT, y -> y.shift(2, 1, 1, -1, 't', 0));
    refused("third 8", x, ARGUMENT, y -> y.shift(2, 1, 1, 8, 't', 0));
    refused("end", x, ARGUMENT, y -> y.shift(2, 1, 1, 0, 'x', 0));
    String[] wrong = {"1", "1 1 1", "0 0", "1 2", "1 -1", "0 0 0 0 0 0 0 0 0 0 0 0", "1 1 1 1 1 1 1 1 1 1 1 1 1 1"};
    for (String holes : wrong) {
      layWord(x, 3, holes);
      refused("holes " + holes, x, ARGUMENT, y -> y.shift(2, 1, 1, 0, 't', 3));
    }
    for (String holes : new String[] {"1", "1 1", "1 1 1 1", "0 0 0", "1 1 1 1 1 1 1 1 1 1 1 1 1 1 1"}) {
      layWord(x, 3, holes);
      refused("three with holes " + holes, x, ARGUMENT, y -> y.shift(2, 1, 1, 1, 't', 3));
    }
    layWord(x, 3, "0 0 0 0 0 0 0 0 0 0 0 1");
    due("twelve holes for two", x.shift(2, 7, 5, 0, 't', 3), 2);
    due("and for three", x.shift(2, 7, 5, 3, 't', 3), 3);
    Trellisworks full = tenCodes();
    refused("an eleventh", full, STATE, y -> y.shift(2, 7, 5, 0, 't', 0));
    refused("an eleventh out of range", full, ARGUMENT, y -> y.shift(2, 8, 5, 0, 't', 0));
    promise = 16;
    x = works();
    x.shift(2, 7, 5, 0, 't', 0);
    x.shift(2, 7, 5, 0, 'b', 0);
    layWord(x, 1, "1 1 1 0");
    x.shift(2, 7, 5, 0, 't', 1);
    x.shift(2, 4, 2, 1, 't', 0);
    x.shift(4, 16, 1, 0, 't', 0);
    x.clear(1);
    layWord(x, 0, "1 0 1 1");
    due("with a tail", x.encode(0, 0, 2), 12);
    due("word", row(x, 2), "1 1 1 0 0 0 0 1 0 1 1 1");
    due("as a ring", x.encode(1, 0, 2), 8);
    due("ring", row(x, 2), "1 0 0 1 0 0 0 1");
    due("with holes, taken as they were", x.encode(2, 0, 2), 9);
    due("holed", row(x, 2), "1 1 1 0 0 0 0 1 1");
    due("each bit three times, one step later each", x.encode(3, 0, 2), 18);
    due("three", row(x, 2), "1 0 0 0 1 0 1 0 1 1 1 0 0 1 1 0 0 1");
    layWord(x, 0, "1");
    due("one bit", x.encode(4, 0, 2), 10);
    due("now and four later", row(x, 2), "1 0 0 0 0 0 0 0 0 1");
    layWord(x, 0, "1 1 1 1 1 1 1 1 1 1 1 1 1 1 1 1");
    due("16 bits", x.encode(4, 0, 2), 40);
    for (String message : new String[] {"", "2", "1 1 1 1 1 1 1 1 1 1 1 1 1 1 1 1 1"}) {
      layWord(x, 0, message);
      refused("no message " + message, x, UNFIT, y -> y.encode(0, 0, 2));
    }
    layWord(x, 0, "1");
    refused("a ring's message below the memory", x, UNFIT, y -> y.encode(1, 0, 2));
    layWord(x, 0, "1 0");
    due("a ring's least message", x.encode(1, 0, 2), 4);
    due("its word", row(x, 2), "0 0 1 0");
  }

  private static void twins() {
    promise = 10;
    Trellisworks x = works();
    due("by steps", x.twins(4, 's', 1, 1), 0);
    due("by columns", x.twins(5, 'r', 2, 0), 1);
    due("by draws", x.twins(4, 'd', 99, 1), 2);
    due("longest", x.twins(20, 's', 99, 99999), 3);
    due("one row", x.twins(4, 'r', 4, 0), 4);
    due("kind", x.kindOf(2), 't');
    refused("length 3", x, ARGUMENT, y -> y.twins(3, 'd', 1, 0));
    refused("length 21", x, ARGUMENT, y -> y.twins(21, 'd', 1, 0));
    refused("law", x, ARGUMENT, y -> y.twins(4, 'x', 1, 0));
    refused("a 0", x, ARGUMENT, y -> y.twins(4, 'd', 0, 0));
    refused("a 100", x, ARGUMENT, y -> y.twins(4, 'd', 100, 0));
    refused("b -1", x, ARGUMENT, y -> y.twins(4, 'r', 1, -1));
    refused("b 100000", x, ARGUMENT, y -> y.twins(4, 's', 1, 100000));
    refused("2 in common", x, ARGUMENT, y -> y.twins(4, 's', 6, 0));
    refused("3 in common", x, ARGUMENT, y -> y.twins(15, 's', 99, 0));
    refused("more columns than places", x, ARGUMENT, y -> y.twins(4, 'r', 5, 0));
    Trellisworks full = tenCodes();
    refused("an eleventh", full, STATE, y -> y.twins(4, 'd', 1, 0));
    refused("an eleventh out of range", full, ARGUMENT, y -> y.twins(3, 'd', 1, 0));
    promise = 16;
    // a register that hears 1 0 0 0 .. tells 1 1 1 0 1 1 0 ..; the order 1 2 3 0 lets the place 0 come last
    layWord(x, 0, "1 0 0 0");
    due("length", x.encode(0, 0, 1), 12);
    due("by steps", row(x, 1), "1 1 0 0 1 0 0 1 0 0 0 1");
    // the order 0 2 4 1 3
    layWord(x, 0, "0 0 1 0 0");
    due("length 5", x.encode(1, 0, 1), 15);
    due("by columns", row(x, 1), "0 0 0 0 0 1 1 1 1 0 1 1 0 1 0");
    // the draws 16838, 5758, 10113 make the order 0 3 1 2
    layWord(x, 0, "0 1 0 0");
    x.encode(2, 0, 1);
    due("by draws", row(x, 1), "0 0 0 1 1 0 0 1 1 0 1 1");
    layWord(x, 0, "0 0 0 1");
    x.encode(2, 0, 1);
    due("by draws again", row(x, 1), "0 0 0 0 0 1 0 0 1 1 1 1");
    layWord(x, 0, "1 0 0 0");
    x.encode(4, 0, 1);
    due("one row is as it was", row(x, 1), "1 1 1 0 1 1 0 1 1 0 0 0");
    layWord(x, 0, "1 0 0 0 0");
    refused("too long", x, UNFIT, y -> y.encode(0, 0, 1));
    layWord(x, 0, "1 0 0 2");
    refused("no bits", x, UNFIT, y -> y.encode(0, 0, 1));
  }

  /** The code of seven bits whose columns are the numbers 1 to 7. */
  private static int hamming(Trellisworks x) {
    int code = x.graph(7, 3);
    for (int bit = 0; bit < 7; bit++) for (int check = 0; check < 3; check++) if ((bit + 1 >> check & 1) == 1) x.edge(code, check, bit);
    return code;
  }

  private static void graph() {
    promise = 11;
    Trellisworks x = works();
    due("least", x.graph(2, 1), 0);
    due("greatest", x.graph(16, 8), 1);
    due("kind", x.kindOf(1), 'l');
    due("no edges", x.traps(1, 1, 0), 16);
    refused("bits 1", x, ARGUMENT, y -> y.graph(1, 1));
    refused("bits 17", x, ARGUMENT, y -> y.graph(17, 1));
    refused("checks 0", x, ARGUMENT, y -> y.graph(2, 0));
    refused("checks 9", x, ARGUMENT, y -> y.graph(2, 9));
    Trellisworks full = tenCodes();
    refused("an eleventh", full, STATE, y -> y.graph(2, 1));
    refused("an eleventh out of range", full, ARGUMENT, y -> y.graph(1, 1));
    promise = 12;
    due("edge", x.edge(1, 7, 15), 1);
    due("another", x.edge(1, 0, 0), 2);
    due("taken away", x.edge(1, 7, 15), 1);
    due("code 0 has its own", x.edge(0, 0, 1), 1);
    x.product();
    refused("no code", x, INDEX, y -> y.edge(3, 9, 9));
    refused("code -1", x, INDEX, y -> y.edge(-1, 0, 0));
    refused("a product", x, UNFIT, y -> y.edge(2, 9, 9));
    refused("check 1", x, ARGUMENT, y -> y.edge(0, 1, 0));
    refused("check -1", x, ARGUMENT, y -> y.edge(0, -1, 0));
    refused("bit 2", x, ARGUMENT, y -> y.edge(0, 0, 2));
    refused("bit -1", x, ARGUMENT, y -> y.edge(0, 0, -1));
    promise = 16;
    x = works();
    hamming(x);
    layWord(x, 0, "1 0 0 0");
    due("length", x.encode(0, 0, 1), 7);
    due("bits 2, 4, 5 and 6 are free", row(x, 1), "1 1 1 0 0 0 0");
    layWord(x, 0, "0 1 1 1");
    x.encode(0, 0, 1);
    due("word", row(x, 1), "0 0 0 1 1 1 1");
    layWord(x, 0, "0 1 1");
    refused("too short", x, UNFIT, y -> y.encode(0, 0, 1));
    layWord(x, 0, "0 1 1 2");
    refused("no bits", x, UNFIT, y -> y.encode(0, 0, 1));
    x.graph(3, 3);
    layWord(x, 0, "1 0 1");
    due("without edges all bits are free", x.encode(1, 0, 1), 3);
    due("and tell the message", row(x, 1), "1 0 1");
    for (int i = 0; i < 3; i++) x.edge(1, i, i);
    refused("all are bound", x, UNFIT, y -> y.encode(1, 0, 1));
    refused("and an empty row is no message", x, UNFIT, y -> y.encode(1, 9, 1));
    x.edge(1, 2, 2);
    x.edge(1, 0, 2);
    layWord(x, 0, "1");
    x.encode(1, 0, 1);
    due("the last bit's column is that of the first", row(x, 1), "1 0 1");
    x.graph(2, 8);
    x.edge(2, 7, 0);
    x.edge(2, 7, 1);
    x.encode(2, 0, 1);
    due("by the last check", row(x, 1), "1 1");
  }

  private static void splits() {
    promise = 13;
    Trellisworks x = works();
    due("least", x.splits(1, 1, 1, false), 0);
    due("greatest", x.splits(4, 16, 15, true), 1);
    due("two of two", x.splits(1, 2, 1, true), 2);
    due("kind", x.kindOf(0), 'p');
    refused("power 0", x, ARGUMENT, y -> y.splits(0, 1, 1, false));
    refused("power 5", x, ARGUMENT, y -> y.splits(5, 1, 1, false));
    refused("power far", x, ARGUMENT, y -> y.splits(Integer.MIN_VALUE, 1, 1, false));
    refused("open 0", x, ARGUMENT, y -> y.splits(2, 0, 1, false));
    refused("open 5", x, ARGUMENT, y -> y.splits(2, 5, 1, false));
    refused("open 1 checked", x, ARGUMENT, y -> y.splits(2, 1, 1, true));
    refused("loss 0", x, ARGUMENT, y -> y.splits(2, 1, 0, false));
    refused("loss 16", x, ARGUMENT, y -> y.splits(2, 1, 16, false));
    Trellisworks full = tenCodes();
    refused("an eleventh", full, STATE, y -> y.splits(2, 2, 1, false));
    refused("an eleventh out of range", full, ARGUMENT, y -> y.splits(2, 5, 1, false));
    promise = 16;
    x = works();
    x.splits(3, 4, 8, false);
    x.splits(3, 4, 8, true);
    layWord(x, 0, "1 0 0 0");
    due("length", x.encode(0, 0, 1), 8);
    due("the place 3 is in the words of 0 1 2 3", row(x, 1), "1 1 1 1 0 0 0 0");
    layWord(x, 0, "0 1 0 0");
    x.encode(0, 0, 1);
    due("the place 5", row(x, 1), "1 1 0 0 1 1 0 0");
    layWord(x, 0, "0 0 0 1");
    x.encode(0, 0, 1);
    due("the place 7", row(x, 1), "1 1 1 1 1 1 1 1");
    refused("checked, it is too long", x, UNFIT, y -> y.encode(1, 0, 1));
    layWord(x, 0, "1 0 0");
    x.encode(1, 0, 1);
    due("the last open place has the check", row(x, 1), "0 0 0 0 1 1 1 1");
    layWord(x, 0, "1 1 0");
    x.encode(1, 0, 1);
    due("even already", row(x, 1), "0 0 1 1 1 1 0 0");
    layWord(x, 0, "1 1 3");
    refused("no bits", x, UNFIT, y -> y.encode(1, 0, 1));
  }

  private static void product() {
    promise = 14;
    Trellisworks x = works();
    due("first", x.product(), 0);
    due("kind", x.kindOf(0), 'h');
    refused("an eleventh", tenCodes(), STATE, y -> y.product());
    promise = 16;
    layWord(x, 0, "1 0 0 0 0 0 0 0 0 0 0 0 0 0 0 0");
    due("length", x.encode(0, 0, 1), 49);
    // the place 3 alone needs the places 1 and 2
    String set = "1 1 1 0 0 0 0";
    String none = "0 0 0 0 0 0 0";
    due("word", row(x, 1), String.join(" ", set, set, set, none, none, none, none));
    layWord(x, 0, "0 0 0 0 0 0 0 0 0 0 0 0 0 0 1 0");
    x.encode(0, 0, 1);
    String six = "0 1 0 1 0 1 0";
    String seven = "0 0 0 0 0 0 0";
    due("the row 7, the column 6", row(x, 1), String.join(" ", six, six, seven, six, seven, seven, six));
    layWord(x, 0, "0 0 0 0 0 0 0 0 0 0 0 0 0 0 1");
    refused("15 bits", x, UNFIT, y -> y.encode(0, 0, 1));
    layWord(x, 0, "0 0 0 0 0 0 0 0 0 0 0 0 0 0 1 2");
    refused("no bits", x, UNFIT, y -> y.encode(0, 0, 1));
  }

  /** One code of each kind, from 0 on: r c t l p h. */
  private static Trellisworks allKinds() {
    Trellisworks x = works();
    x.roots(8, 3, 2);
    x.shift(2, 7, 5, 0, 't', 15);
    x.twins(4, 's', 1, 0);
    x.graph(3, 1);
    x.splits(2, 2, 4, false);
    x.product();
    return x;
  }

  private static void kinds() {
    promise = 15;
    Trellisworks x = allKinds();
    String kinds = "rctlph";
    for (int i = 0; i < 6; i++) due("kind " + i, x.kindOf(i), kinds.charAt(i));
    refused("no code 6", x, INDEX, y -> y.kindOf(6));
    refused("no code -1", x, INDEX, y -> y.kindOf(-1));
  }

  private static void encodeWrong() {
    promise = 16;
    Trellisworks x = allKinds();
    refused("no code", x, INDEX, y -> y.encode(6, 0, 1));
    refused("no shelf from", x, INDEX, y -> y.encode(0, 16, 1));
    refused("no shelf to", x, INDEX, y -> y.encode(0, 0, 16));
    for (int i = 0; i < 6; i++) {
      int code = i;
      refused("an empty row by " + i, x, UNFIT, y -> y.encode(code, 0, 1));
    }
    for (String message : new String[] {"1 2", "1 2 8", "1 2 -1", "1 2 3 4"}) {
      layWord(x, 0, message);
      refused("no message of roots " + message, x, UNFIT, y -> y.encode(0, 0, 1));
    }
    layWord(x, 0, "7 0 1");
    due("onto itself", x.encode(0, 0, 0), 5);
    due("begins as before", row(x, 0).startsWith("7 0 1 "), true);
  }

  private static void decodeRoots() {
    promise = 17;
    Trellisworks x = works();
    x.roots(8, 3, 4);
    x.roots(16, 9, 6);
    x.roots(16, 1, 2);
    lay(x, 0, 1, 2, 3);
    x.encode(0, 0, 1);
    due("no errors", x.decode(0, 1, 2), 0L);
    due("message", row(x, 2), "1 2 3");
    mendedRoots(x, 8, 4, "1 2 3");
    layWord(x, 0, "15 0 3 9 9 1 2 14 7");
    x.encode(1, 0, 1);
    mendedRoots(x, 16, 6, "15 0 3 9 9 1 2 14 7");
    layWord(x, 1, "-1 -1 -1 -1 -1 0 0");
    refused("five holes of four", x, NONE, y -> y.decode(0, 1, 2));
    layWord(x, 1, "-1 -1 -1 -1 5 0 0");
    due("four holes", x.decode(0, 1, 2), 0L);
    // the words of the code 2 are the multiples of 1 6 8, of which 1 1 0 is two places away at least
    layWord(x, 1, "1 1 0");
    refused("too far from all", x, NONE, y -> y.decode(2, 1, 2));
    layWord(x, 1, "1 1 8");
    due("near one", x.decode(2, 1, 2), 1L);
    due("its message", row(x, 2), "1");
    layWord(x, 1, "1 -1 0");
    refused("a hole and an error", x, NONE, y -> y.decode(2, 1, 2));
    layWord(x, 1, "-1 6 -1");
    due("two holes", x.decode(2, 1, 1), 0L);
    due("onto itself", row(x, 1), "1");
    for (String row : new String[] {"1 6", "1 6 8 0", "1 6 16", "1 -2 8", ""}) {
      layWord(x, 1, row);
      refused("no row " + row, x, UNFIT, y -> y.decode(2, 1, 2));
    }
  }

  /** Mends the word of the shelf 1 behind all errors and holes that are promised to be mended, at drawn places. */
  private static void mendedRoots(Trellisworks x, int elements, int checks, String message) {
    List<Integer> word = new ArrayList<>();
    for (int i = 0; i < x.size(1); i++) word.add(x.at(1, i));
    java.util.Random random = new java.util.Random(5);
    for (int turn = 0; turn < 300; turn++) {
      int errors = random.nextInt(checks / 2 + 1);
      int holes = random.nextInt(checks - 2 * errors + 1);
      List<Integer> places = new ArrayList<>();
      for (int i = 0; i < word.size(); i++) places.add(i);
      java.util.Collections.shuffle(places, random);
      List<Integer> row = new ArrayList<>(word);
      for (int i = 0; i < holes; i++) row.set(places.get(i), -1);
      for (int i = holes; i < holes + errors; i++) row.set(places.get(i), row.get(places.get(i)) ^ 1 + random.nextInt(elements - 1));
      Trellisworks other = works();
      other.roots(elements, word.size() - checks, checks);
      for (int z : row) other.put(3, z);
      due("errors and holes in " + row, answer(other, y -> y.decode(0, 3, 4)), (long) errors);
      due("message of " + row, row(other, 4), message);
    }
  }

  private static void decodeShift() {
    promise = 17;
    Trellisworks x = works();
    x.shift(2, 7, 5, 0, 't', 15);
    layWord(x, 0, "1 1 1 0 0 0 0 1 0 1 1 1");
    x.soften(0, 5, 1);
    due("metric", x.decode(0, 1, 2), 60L);
    due("message", row(x, 2), "1 0 1 1");
    x.clear(1);
    layWord(x, 1, "5 -5 -5 5 5 5 5 -5 -5 -5 -5 -5");
    due("two wrong", x.decode(0, 1, 2), 40L);
    due("mended", row(x, 2), "1 0 1 1");
    layWord(x, 1, "0 0 0 0 0 0 0 0");
    due("nothing known", x.decode(0, 1, 2), 0L);
    due("0 ahead of 1", row(x, 2), "0 0");
    layWord(x, 1, "-9 -9 -9 9 -9 -9");
    due("one bit", x.decode(0, 1, 1), 54L);
    due("onto itself", row(x, 1), "1");
    for (int many : new int[] {0, 1, 4, 5, 7, 37, 38}) {
      x.clear(1);
      for (int i = 0; i < many; i++) x.put(1, 1);
      refused("a row of " + many, x, UNFIT, y -> y.decode(0, 1, 2));
    }
    x.clear(1);
    for (int i = 0; i < 36; i++) x.put(1, -999);
    due("a row of 36 has a message of 16", answer(x, y -> y.decode(0, 1, 2)) instanceof Long, true);
    due("which", x.size(2), 16);
    // outputs are kept in the first of two steps alone, so that messages of 1 and 2 bits have words of 2 and 4
    x = works();
    layWord(x, 0, "1 1 0 0");
    x.shift(2, 7, 5, 0, 't', 0);
    layWord(x, 1, "9 9 9 9");
    due("the least length", x.decode(0, 1, 2), 36L);
    due("is told", x.size(2), 1);
    // metrics may be below 0: each of these generators gives 0 for the first bit alone
    x = works();
    x.shift(1, 1, 1, 0, 't', 0);
    layWord(x, 1, "-7 -7 1 1");
    due("below 0", x.decode(0, 1, 2), -12L);
    due("message 0", row(x, 2), "0");
    // a ring: its own end is ahead of it
    x = works();
    x.shift(2, 7, 5, 0, 'b', 0);
    layWord(x, 0, "1 0 0 1 0 0 0 1");
    x.soften(0, 3, 1);
    due("ring", x.decode(0, 1, 2), 24L);
    due("its message", row(x, 2), "1 0 1 1");
    x.clear(1);
    x.put(1, 1);
    x.put(1, 1);
    refused("a ring's row below the memory", x, UNFIT, y -> y.decode(0, 1, 2));
  }

  private static void decodeSplitsAndProducts() {
    promise = 17;
    Trellisworks x = works();
    x.splits(1, 2, 8, false);
    x.splits(1, 2, 8, true);
    x.product();
    layWord(x, 0, "3 -5");
    due("splits by a list of 1", x.decode(0, 0, 1), 0L);
    due("message", row(x, 1), "1 1");
    layWord(x, 0, "-5 3");
    refused("its check is wrong", x, NONE, y -> y.decode(1, 0, 1));
    refused("three numbers", x, UNFIT, y -> {
      y.put(0, 1);
      try {
        return y.decode(1, 0, 1);
      } finally {
        y.clear(0);
        y.put(0, -5);
        y.put(0, 3);
      }
    });
    layWord(x, 2, "1 0 1 1 0 0 1 0 1 1 1 0 0 1 0 1");
    x.encode(2, 2, 3);
    due("a product without errors", x.decode(2, 3, 4), 1L);
    due("message", row(x, 4), row(x, 2));
    mendedProducts(row(x, 2), row(x, 3).split(" "));
    x = works();
    x.splits(1, 2, 8, false);
    x.splits(1, 2, 8, true);
    x.product();
    // four errors at the corners of a square are no row's or column's to mend: 5 and 6 make each point at 3
    StringBuilder square = new StringBuilder();
    for (int k = 0; k < 49; k++) {
      int row = k / 7 + 1;
      int column = k % 7 + 1;
      square.append((row == 5 || row == 6) && (column == 5 || column == 6) ? 1 : 0).append(' ');
    }
    layWord(x, 3, square.toString());
    due("a square becomes a word of nine ones", x.decode(2, 3, 4), 2L);
    due("with the message", row(x, 4), "1 1 1 0 1 1 1 0 1 1 1 0 0 0 0 0");
    layWord(x, 3, square.toString().replaceFirst("0", "2"));
    refused("no bits", x, UNFIT, y -> y.decode(2, 3, 4));
    layWord(x, 3, square.toString().substring(2));
    refused("48 bits", x, UNFIT, y -> y.decode(2, 3, 4));
    int gaveUp = 0;
    for (int seed = 0; seed < 300; seed++) {
      x = works();
      x.product();
      for (int k = 0; k < 49; k++) x.put(3, 0);
      x.noise(3, 'f', 300, 0, seed);
      lay(x, 4, 77);
      Object told = answer(x, y -> y.decode(0, 3, 4));
      if (!told.equals(NONE)) continue;
      gaveUp++;
      due("one that gives up puts none", row(x, 4), "77");
    }
    due("some products are given up", gaveUp > 0, true);
  }

  private static void mendedProducts(String message, String[] word) {
    for (int i = 0; i < 49; i++) for (int j = i; j < 49; j += 5) {
      Trellisworks x = works();
      x.product();
      for (int k = 0; k < 49; k++) x.put(3, Integer.parseInt(word[k]) ^ (k == i || k == j ? 1 : 0));
      due("errors at " + i + " " + j, x.decode(0, 3, 4), 2L);
      due("mended", row(x, 4), message);
    }
  }

  private static void decodeWrong() {
    promise = 17;
    Trellisworks x = allKinds();
    refused("no code", x, INDEX, y -> y.decode(6, 0, 1));
    refused("no shelf from", x, INDEX, y -> y.decode(2, -1, 1));
    refused("no shelf to", x, INDEX, y -> y.decode(2, 0, 16));
    refused("twins", x, ARGUMENT, y -> y.decode(2, 0, 1));
    refused("graph", x, ARGUMENT, y -> y.decode(3, 0, 1));
    for (int i : new int[] {0, 1, 4, 5}) refused("an empty row by " + i, x, UNFIT, y -> y.decode(i, 0, 1));
  }

  private static void decodeList() {
    promise = 18;
    Trellisworks x = allKinds();
    layWord(x, 0, "5 -5 -5 5 5 5 5 -5 -5 -5 -5 -5");
    due("place 0", x.decodeList(1, 0, 0, 1), 40L);
    due("as decoding", row(x, 1), "1 0 1 1");
    layWord(x, 0, "0 0 0 0 0 0 0 0");
    String[] order = {"0 0", "0 1", "1 0", "1 1"};
    for (int i = 0; i < 4; i++) {
      due("place " + i, x.decodeList(1, 0, i, 1), 0L);
      due("of the same metric by their bits", row(x, 1), order[i]);
    }
    // the words of 00, 01, 10, 11 are 00000000, 00111011, 11101100, 11010111
    layWord(x, 0, "-1 -2 -1 1 -1 -1 1 2");
    long[] metrics = {10, -2, -2, -6};
    String[] messages = {"1 0", "0 0", "1 1", "0 1"};
    for (int i = 0; i < 4; i++) {
      due("metric " + i, x.decodeList(1, 0, i, 1), metrics[i]);
      due("message " + i, row(x, 1), messages[i]);
    }
    layWord(x, 0, "-9 -9 -9 9 -9 -9");
    due("one bit, place 1", x.decodeList(1, 0, 1, 1), -36L);
    due("message", row(x, 1), "0");
    refused("one bit has no place 2", x, NONE, y -> y.decodeList(1, 0, 2, 1));
    refused("one bit has no place 3", x, NONE, y -> y.decodeList(1, 0, 3, 1));
    refused("no code", x, INDEX, y -> y.decodeList(6, 0, 4, 1));
    refused("no shelf from", x, INDEX, y -> y.decodeList(1, 16, 4, 1));
    refused("no shelf to", x, INDEX, y -> y.decodeList(1, 0, 4, -1));
    for (int i : new int[] {0, 2, 3, 4, 5}) refused("kind " + i, x, ARGUMENT, y -> y.decodeList(i, 0, 0, 1));
    refused("place 4", x, ARGUMENT, y -> y.decodeList(1, 9, 4, 1));
    refused("place -1", x, ARGUMENT, y -> y.decodeList(1, 9, -1, 1));
    refused("an empty row", x, UNFIT, y -> y.decodeList(1, 9, 3, 1));
  }

  private static void early() {
    promise = 19;
    Trellisworks x = allKinds();
    // each bit is sent in its own step and two steps later
    int code = x.shift(2, 4, 1, 0, 't', 15);
    layWord(x, 0, "1 0 0 0 0 -5");
    due("the second sending is not yet heard", x.early(code, 0, 1), 1);
    due("now it is", x.early(code, 0, 2), 0);
    due("no step is so late", x.early(code, 0, 3), 0);
    due("nor so", x.early(code, 0, 20), 0);
    layWord(x, 0, "1 0 1 0 -1 -5 0 -5 0 -5");
    due("two of three", x.early(code, 0, 1), 2);
    layWord(x, 0, "0 0 0 0 -1 0 0 0 0 -1");
    due("0 ahead of 1 in all", x.early(code, 0, 1), 0);
    layWord(x, 0, "5 -5 -5 5 5 5 5 -5 -5 -5 -5 -5");
    for (int depth = 1; depth <= 20; depth++) {
      int steps = depth;
      due("depth " + depth + " is not above the bits", (int) answer(x, y -> y.early(1, 0, steps)) <= 4, true);
    }
    int ring = x.shift(2, 7, 5, 0, 'b', 15);
    refused("no code", x, INDEX, y -> y.early(9, 0, 0));
    refused("no shelf", x, INDEX, y -> y.early(1, 16, 0));
    for (int i : new int[] {0, 2, 3, 4, 5}) refused("kind " + i, x, ARGUMENT, y -> y.early(i, 9, 1));
    refused("a ring", x, ARGUMENT, y -> y.early(ring, 0, 1));
    refused("depth 0", x, ARGUMENT, y -> y.early(1, 9, 0));
    refused("depth 21", x, ARGUMENT, y -> y.early(1, 9, 21));
    refused("an empty row", x, UNFIT, y -> y.early(1, 9, 1));
  }

  private static void decodeTwins() {
    promise = 20;
    Trellisworks x = allKinds();
    layWord(x, 0, "1 0 1 1");
    x.encode(2, 0, 1);
    x.soften(1, 10, 1);
    due("a word without noise", x.decodeTwins(2, 1, 20, 2), 1);
    due("its message", row(x, 2), "1 0 1 1");
    layWord(x, 1, "0 0 0 0 0 0 0 0 0 0 0 0");
    due("nothing known", x.decodeTwins(2, 1, 20, 2), 1);
    due("no D is below 0", row(x, 2), "0 0 0 0");
    int most = 0;
    for (int seed = 0; seed < 60; seed++) {
      x = allKinds();
      layWord(x, 1, "0 0 0 0 0 0 0 0 0 0 0 0");
      x.noise(1, 'f', 500, 0, seed);
      x.soften(1, 7, 1);
      for (int rounds : new int[] {1, 2, 20}) {
        int done = x.decodeTwins(2, 1, rounds, 2);
        due("not more than told", done >= 1 && done <= rounds, true);
        most = Math.max(most, done);
      }
    }
    due("some rows need all rounds", most, 20);
    refused("no code", x, INDEX, y -> y.decodeTwins(6, 1, 0, 2));
    refused("no shelf from", x, INDEX, y -> y.decodeTwins(2, -1, 0, 2));
    refused("no shelf to", x, INDEX, y -> y.decodeTwins(2, 1, 0, 16));
    for (int i : new int[] {0, 1, 3, 4, 5}) refused("kind " + i, x, ARGUMENT, y -> y.decodeTwins(i, 9, 1, 2));
    refused("rounds 0", x, ARGUMENT, y -> y.decodeTwins(2, 9, 0, 2));
    refused("rounds 21", x, ARGUMENT, y -> y.decodeTwins(2, 9, 21, 2));
    refused("an empty row", x, UNFIT, y -> y.decodeTwins(2, 9, 1, 2));
    layWord(x, 9, "1 1 1 1 1 1 1 1 1 1 1 1 1");
    refused("13 numbers", x, UNFIT, y -> y.decodeTwins(2, 9, 1, 2));
    longTwins();
  }

  /** The longest twins against the model, which tries all rows of inputs. */
  private static void longTwins() {
    for (int length : new int[] {16, 19, 20}) {
      Trellisworks x = works();
      Model model = new Model();
      due("longest", x.twins(length, 's', 7, 3), model.twins(length, 's', 7, 3));
      for (int i = 0; i < 3 * length; i++) {
        int z = (i * 37 % 23) - 11;
        x.put(0, z);
        model.put(0, z);
      }
      due("rounds", x.decodeTwins(0, 0, 2, 1), model.decodeTwins(0, 0, 2, 1));
      due("message", row(x, 1), row(model.shelves.get(1)));
    }
    // rows that would be decoded otherwise if 98 or 100 were told where 99 is due
    loud("-117 -103 -168 -20 -305 -143 -64 411 129 121 189 458", 20, "0 1 1 1");
    loud("-73 31 276 129 113 545 -52 310 -107 89 488 -468", 20, "0 0 0 1");
    loud("-104 30 -193 27 450 -273 14 542 -494 -114 -236 -269", 20, "0 0 0 0");
    loud("-15 -210 129 120 339 232 15 -80 -461 -99 470 -552", 16, "0 0 0 1");
  }

  private static void loud(String row, int rounds, String message) {
    Trellisworks x = works();
    x.twins(4, 's', 3, 1);
    layWord(x, 0, row);
    due("rounds of " + row, x.decodeTwins(0, 0, 20, 1), rounds);
    due("message of " + row, row(x, 1), message);
  }

  private static String row(List<Integer> row) {
    return row.toString().replaceAll("[\\[\\],]", "");
  }

  private static void decodeGraph() {
    promise = 21;
    Trellisworks x = allKinds();
    for (int i = 0; i < 3; i++) x.edge(3, 0, i);
    layWord(x, 0, "5 4 -1");
    for (char law : new char[] {'f', 'c'}) for (boolean isDamped : new boolean[] {false, true}) {
      due("one check mends it", x.decodeGraph(3, 0, 1, law, isDamped, 1), 1);
      due("word", row(x, 1), "0 0 0");
    }
    layWord(x, 0, "5 4 -5");
    due("the least amount wins", x.decodeGraph(3, 0, 1, 'f', false, 1), 1);
    due("5-4 4-5 -5+4", row(x, 1), "0 1 1");
    // undamped -4 -6 4 come; damped -2 -3 2, then -3 -4 3, then -3 -5 3, with which the second bit is 1 at last
    layWord(x, 0, "6 4 -9");
    due("6-4 4-6 -9+4", x.decodeGraph(3, 0, 20, 'f', false, 1), 1);
    due("word", row(x, 1), "0 1 1");
    due("damped", x.decodeGraph(3, 0, 3, 'f', true, 1), 3);
    due("word of the third round", row(x, 1), "0 1 1");
    refused("two damped rounds are too few", x, NONE, y -> y.decodeGraph(3, 0, 2, 'f', true, 1));
    // -4 -5 4 come; damped they stay at -3 -4 3 for good
    layWord(x, 0, "6 4 -5");
    refused("cut, half of an odd sum stays", x, NONE, y -> y.decodeGraph(3, 0, 20, 'c', true, 1));
    // a check of one bit says 0 with 31, which -100 outdoes
    int lone = x.graph(2, 1);
    x.edge(lone, 0, 0);
    layWord(x, 0, "-31 -1");
    due("31 is enough for -31", x.decodeGraph(lone, 0, 1, 'f', false, 1), 1);
    due("word", row(x, 1), "0 1");
    layWord(x, 0, "-32 -1");
    lay(x, 1, 7);
    refused("not for -32", x, NONE, y -> y.decodeGraph(lone, 0, 20, 'c', false, 1));
    due("none is put", row(x, 1), "7");
    int free = x.graph(2, 1);
    layWord(x, 0, "-1 0");
    due("without edges all is even", x.decodeGraph(free, 0, 1, 'c', false, 1), 1);
    due("as spoken for", row(x, 1), "1 0");
    refused("no code", x, INDEX, y -> y.decodeGraph(9, 0, 0, 'x', false, 1));
    refused("no shelf from", x, INDEX, y -> y.decodeGraph(3, 16, 0, 'x', false, 1));
    refused("no shelf to", x, INDEX, y -> y.decodeGraph(3, 0, 0, 'x', false, 16));
    for (int i : new int[] {0, 1, 2, 4, 5}) refused("kind " + i, x, ARGUMENT, y -> y.decodeGraph(i, 9, 1, 'f', false, 1));
    refused("rounds 0", x, ARGUMENT, y -> y.decodeGraph(3, 9, 0, 'f', false, 1));
    refused("rounds 21", x, ARGUMENT, y -> y.decodeGraph(3, 9, 21, 'f', false, 1));
    refused("law", x, ARGUMENT, y -> y.decodeGraph(3, 9, 1, 'x', false, 1));
    refused("two numbers", x, UNFIT, y -> y.decodeGraph(3, 0, 1, 'f', false, 1));
  }

  private static void decodeSplits() {
    promise = 22;
    Trellisworks x = allKinds();
    int checked = x.splits(1, 2, 8, true);
    layWord(x, 0, "-5 3");
    // costs: 1 0 is 0, 0 1 is 3, 0 0 is 5, 1 1 is 8; checks are right in 0 0 and 1 1
    refused("list 1", x, NONE, y -> y.decodeSplits(checked, 0, 1, 1));
    refused("list 2", x, NONE, y -> y.decodeSplits(checked, 0, 2, 1));
    due("list 3", x.decodeSplits(checked, 0, 3, 1), 5L);
    due("message", row(x, 1), "0");
    due("list 4", x.decodeSplits(checked, 0, 4, 1), 5L);
    layWord(x, 0, "3 -5");
    due("right at once", x.decodeSplits(checked, 0, 1, 1), 0L);
    due("message without its check", row(x, 1), "1");
    int open = x.splits(1, 2, 8, false);
    layWord(x, 0, "0 0");
    due("nothing known", x.decodeSplits(open, 0, 4, 1), 0L);
    due("0 ahead of 1", row(x, 1), "0 0");
    int shut = x.splits(1, 1, 8, false);
    layWord(x, 0, "-5 3");
    due("a shut place costs, too", x.decodeSplits(shut, 0, 1, 1), 3L);
    due("-5 and 3 together", row(x, 1), "1");
    refused("no code", x, INDEX, y -> y.decodeSplits(9, 0, 0, 1));
    refused("no shelf from", x, INDEX, y -> y.decodeSplits(4, 16, 0, 1));
    refused("no shelf to", x, INDEX, y -> y.decodeSplits(4, 0, 0, -1));
    for (int i : new int[] {0, 1, 2, 3, 5}) refused("kind " + i, x, ARGUMENT, y -> y.decodeSplits(i, 9, 1, 1));
    refused("list 0", x, ARGUMENT, y -> y.decodeSplits(4, 9, 0, 1));
    refused("list 5", x, ARGUMENT, y -> y.decodeSplits(4, 9, 5, 1));
    refused("an empty row", x, UNFIT, y -> y.decodeSplits(4, 9, 1, 1));
  }

  private static void isOpen() {
    promise = 23;
    Trellisworks x = allKinds();
    int half = x.splits(3, 4, 8, false);
    String open = "";
    for (int i = 0; i < 8; i++) open += x.isOpen(half, i) ? "1" : "0";
    due("half of eight", open, "00010111");
    // with much loss the places 0, 1, 2, 4 and 8 of sixteen have the same number, of which the lower ones are shut
    int most = x.splits(4, 15, 15, false);
    due("the place 0 is shut", x.isOpen(most, 0), false);
    due("the place 1 is open", x.isOpen(most, 1), true);
    int fewer = x.splits(4, 14, 15, false);
    due("then 1", x.isOpen(fewer, 1), false);
    due("not 2", x.isOpen(fewer, 2), true);
    for (int power = 1; power <= 4; power++) for (int loss = 1; loss <= 15; loss++) for (int k = 1; k <= 1 << power; k++) {
      Trellisworks y = works();
      Model model = new Model();
      y.splits(power, k, loss, false);
      model.splits(power, k, loss, false);
      for (int i = 0; i < 1 << power; i++) {
        due("place " + i + " of 2 to the power of " + power + " with " + k + ", loss " + loss, y.isOpen(0, i), model.isOpen(0, i));
      }
    }
    refused("no code", x, INDEX, y -> y.isOpen(9, 99));
    for (int i : new int[] {0, 1, 2, 3, 5}) refused("kind " + i, x, UNFIT, y -> y.isOpen(i, 99));
    refused("place 4", x, ARGUMENT, y -> y.isOpen(4, 4));
    refused("place -1", x, ARGUMENT, y -> y.isOpen(4, -1));
    due("place 3", x.isOpen(4, 3), true);
  }

  private static void ringsOfFour() {
    promise = 24;
    Trellisworks x = allKinds();
    int code = x.graph(4, 3);
    due("no edges", x.ringsOfFour(code), 0);
    for (int bit = 0; bit < 3; bit++) for (int check = 0; check < 2; check++) x.edge(code, check, bit);
    due("two checks with three bits", x.ringsOfFour(code), 3);
    for (int bit = 0; bit < 3; bit++) x.edge(code, 2, bit);
    due("three by three", x.ringsOfFour(code), 9);
    x.edge(code, 2, 0);
    due("one edge less", x.ringsOfFour(code), 5);
    refused("no code", x, INDEX, y -> y.ringsOfFour(7));
    for (int i : new int[] {0, 1, 2, 4, 5}) refused("kind " + i, x, UNFIT, y -> y.ringsOfFour(i));
  }

  private static void traps() {
    promise = 25;
    Trellisworks x = allKinds();
    int code = hamming(x);
    int[] ones = {0, 3, 3, 1};
    for (int odd = 0; odd <= 8; odd++) due("single bits, odd " + odd, x.traps(code, 1, odd), odd < 4 ? ones[odd] : 0);
    due("no pair is even", x.traps(code, 2, 0), 0);
    due("pairs of all three", x.traps(code, 2, 3), 3);
    due("triples that are words", x.traps(code, 3, 0), 7);
    int small = x.graph(2, 1);
    due("no triple of two", x.traps(small, 3, 0), 0);
    due("one pair", x.traps(small, 2, 0), 1);
    refused("no code", x, INDEX, y -> y.traps(9, 0, 9));
    for (int i : new int[] {0, 1, 2, 4, 5}) refused("kind " + i, x, UNFIT, y -> y.traps(i, 0, 9));
    refused("bits 0", x, ARGUMENT, y -> y.traps(3, 0, 0));
    refused("bits 4", x, ARGUMENT, y -> y.traps(3, 4, 0));
    refused("odd -1", x, ARGUMENT, y -> y.traps(3, 1, -1));
    refused("odd 9", x, ARGUMENT, y -> y.traps(3, 1, 9));
  }

  private static void counted(String what, Trellisworks x, int code, int message, int... want) {
    for (int ones = 0; ones < want.length; ones++) due(what + " with " + ones, x.weight(code, message, ones), want[ones]);
    due(what + " with -1", x.weight(code, message, -1), 0);
    due(what + " with very many", x.weight(code, message, 1000), 0);
  }

  private static void weight() {
    promise = 26;
    Trellisworks x = allKinds();
    counted("hamming", x, hamming(x), 99, 1, 0, 0, 7, 7, 0, 0, 1, 0);
    int eight = x.splits(3, 4, 8, false);
    counted("four of eight", x, eight, -5, 1, 0, 0, 0, 14, 0, 0, 0, 1, 0);
    counted("and checked", x, x.splits(3, 4, 8, true), 0, 1, 0, 0, 0, 7 - 1 + 1, 0, 0, 0, 0);
    counted("one bit by 7 5", x, 1, 1, 1, 0, 0, 0, 0, 1, 0);
    counted("two bits by 7 5", x, 1, 2, 1, 0, 0, 0, 0, 2, 1, 0);
    layWord(x, 0, "1 0 0 0");
    int holed = x.shift(1, 3, 1, 0, 'b', 0);
    counted("messages that share a word count each", x, holed, 2, 2, 2, 0);
    due("twelve bits", x.weight(1, 12, 0), 1);
    refused("no code", x, INDEX, y -> y.weight(10, 0, 0));
    for (int i : new int[] {0, 2, 5}) refused("kind " + i, x, UNFIT, y -> y.weight(i, 0, 0));
    refused("length 0", x, ARGUMENT, y -> y.weight(1, 0, 0));
    refused("length 13", x, ARGUMENT, y -> y.weight(1, 13, 0));
    x = works();
    x.shift(3, 7, 5, 0, 'b', 0);
    refused("below the memory", x, ARGUMENT, y -> y.weight(0, 2, 0));
    due("the memory", x.weight(0, 3, 0) >= 1, true);
    x.graph(13, 1);
    refused("13 free bits", x, UNFIT, y -> y.weight(1, 1, 0));
    x.edge(1, 0, 0);
    due("12 free bits", x.weight(1, 1, 12), 1);
    x.graph(2, 2);
    x.edge(2, 0, 0);
    x.edge(2, 1, 1);
    refused("no free bits", x, UNFIT, y -> y.weight(2, 1, 0));
    x.splits(4, 13, 4, false);
    refused("13 open places", x, UNFIT, y -> y.weight(3, 1, 0));
    x.splits(4, 13, 4, true);
    due("of which one is a check", x.weight(4, 1, 0), 1);
    x.splits(4, 14, 4, true);
    refused("14 of which one is a check", x, UNFIT, y -> y.weight(5, 1, 0));
  }

  private static void allows() {
    promise = 27;
    Trellisworks x = works();
    due("singleton 7 4 4", x.allows('s', 7, 4, 4), true);
    due("singleton 7 4 5", x.allows('s', 7, 4, 5), false);
    due("hamming 7 4 3", x.allows('h', 7, 4, 3), true);
    due("hamming 7 4 4", x.allows('h', 7, 4, 4), true);
    due("hamming 7 4 5", x.allows('h', 7, 4, 5), false);
    due("hamming 7 5 3", x.allows('h', 7, 5, 3), false);
    due("golay", x.allows('h', 23, 12, 7), true);
    due("golay and a bit", x.allows('h', 23, 13, 7), false);
    due("golay further", x.allows('h', 23, 12, 9), false);
    due("griesmer 15 5 7", x.allows('g', 15, 5, 7), true);
    due("griesmer 14 5 7", x.allows('g', 14, 5, 7), false);
    due("griesmer 40 40 1", x.allows('g', 40, 40, 1), true);
    due("griesmer 40 40 2", x.allows('g', 40, 40, 2), false);
    due("hamming 40 40 1", x.allows('h', 40, 40, 1), true);
    due("hamming 40 40 3", x.allows('h', 40, 40, 3), false);
    due("hamming 40 1 40", x.allows('h', 40, 1, 40), true);
    due("hamming 40 2 40", x.allows('h', 40, 2, 40), false);
    due("singleton 1 1 1", x.allows('s', 1, 1, 1), true);
    Model model = new Model();
    for (char bound : new char[] {'s', 'h', 'g'}) {
      for (int n = 1; n <= 40; n++) for (int k = 1; k <= n; k++) {
        Trellisworks y = works();
        for (int d = 1; d <= n; d++) {
          if (y.allows(bound, n, k, d) != model.allows(bound, n, k, d)) due(bound + " " + n + " " + k + " " + d, "other", "as the model");
        }
      }
    }
    refused("bound", x, ARGUMENT, y -> y.allows('x', 7, 4, 3));
    refused("length 0", x, ARGUMENT, y -> y.allows('s', 0, 0, 0));
    refused("length 41", x, ARGUMENT, y -> y.allows('s', 41, 4, 3));
    refused("message 0", x, ARGUMENT, y -> y.allows('s', 7, 0, 3));
    refused("message 8", x, ARGUMENT, y -> y.allows('s', 7, 8, 3));
    refused("distance 0", x, ARGUMENT, y -> y.allows('s', 7, 4, 0));
    refused("distance 8", x, ARGUMENT, y -> y.allows('s', 7, 4, 8));
  }

  private static void source() {
    promise = 28;
    Trellisworks x = works();
    layWord(x, 0, "0 255 3 4 5 6 7 8 9 10 11 12");
    due("twelve", x.source(0), 12);
    x.come(1, false);
    layWord(x, 0, "200");
    due("one", x.source(0), 1);
    due("drops are forgotten", x.come(1, false), 1);
    refused("no shelf", x, INDEX, y -> y.source(16));
    refused("none", x, UNFIT, y -> y.source(1));
    layWord(x, 1, "0 255 3 4 5 6 7 8 9 10 11 12 13");
    refused("thirteen", x, UNFIT, y -> y.source(1));
    layWord(x, 1, "0 256");
    refused("256", x, UNFIT, y -> y.source(1));
    layWord(x, 1, "0 -1");
    refused("-1", x, UNFIT, y -> y.source(1));
    due("the pieces were taken, not the shelf", x.clear(0), 1);
    due("they stay", x.piece(0), 200);
  }

  private static void drop() {
    promise = 29;
    Trellisworks x = works();
    refused("no source", x, NONE, y -> y.drop(0));
    refused("no source and no seed", x, ARGUMENT, y -> y.drop(-1));
    layWord(x, 0, "1 2 4 8 16");
    x.source(0);
    // the seed 1: 16838 modulo 16 is 6, so two pieces; 5758 and 10113 tell 3 twice, 17515 tells 0
    due("the draws are", List.of(DRAWS_OF_1[0] % 16, DRAWS_OF_1[1] % 5, DRAWS_OF_1[2] % 5, DRAWS_OF_1[3] % 5), List.of(6, 3, 3, 0));
    due("two pieces", x.drop(1), 8 + 1);
    int[] degrees = {1, 2, 2, 2, 2, 2, 2, 2, 3, 3, 3, 3, 4, 4, 5, 12};
    layWord(x, 0, "1 2 4 8 16 32 64 128");
    x.source(0);
    boolean[] seen = new boolean[16];
    for (int seed = 0; seed < 200; seed++) {
      int drawn = Model.draws(seed, 1)[0] % 16;
      seen[drawn] = true;
      due("pieces of the seed " + seed, Integer.bitCount(x.drop(seed)), Math.min(8, degrees[drawn]));
    }
    for (int i = 0; i < 16; i++) due("a degree by " + i, seen[i], true);
    layWord(x, 0, "77");
    x.source(0);
    due("at most all", x.drop(1), 77);
    due("seed 99999", x.drop(99999), 77);
    refused("seed -1", x, ARGUMENT, y -> y.drop(-1));
    refused("seed 100000", x, ARGUMENT, y -> y.drop(100000));
  }

  private static void come() {
    promise = 30;
    Trellisworks x = works();
    refused("no source", x, NONE, y -> y.come(0, false));
    refused("no source and no seed", x, ARGUMENT, y -> y.come(100000, false));
    layWord(x, 0, "77");
    x.source(0);
    due("first", x.come(5, true), 1);
    due("flipped", x.piece(0), 76);
    x.source(0);
    due("unflipped", x.come(5, false), 1);
    due("as it was", x.piece(0), 77);
    for (int i = 2; i <= 30; i++) due("drop " + i, x.come(i, false), i);
    refused("a 31st", x, STATE, y -> y.come(5, false));
    refused("a 31st of no seed", x, ARGUMENT, y -> y.come(-1, false));
  }

  /** The least seed whose drop of the pieces 1 2 4 .. has this value. */
  private static int seedOf(int value) {
    Trellisworks x = works();
    for (int seed = 0; seed < 99999; seed++) {
      if (seed % 500 == 0) {
        x = works();
        layWord(x, 0, "1 2 4 8");
        x.source(0);
      }
      if (x.drop(seed) == value) return seed;
    }
    throw new IllegalStateException("no seed");
  }

  private static void peeled() {
    promise = 31;
    Trellisworks x = works();
    layWord(x, 0, "1 2 4 8");
    x.source(0);
    due("no drops", x.peeled(), 0);
    x.come(seedOf(1 + 2), false);
    x.come(seedOf(2 + 4), false);
    due("pairs tell none", x.peeled(), 0);
    x.come(seedOf(1 + 2 + 4), false);
    due("three together tell none by peeling", x.peeled(), 0);
    due("though all together do", x.solved(), 3);
    x.come(seedOf(4), false);
    due("one tells the next, drops ahead too", x.peeled(), 3);
    x.come(seedOf(4), true);
    due("by the drops in their order", x.peeled(), 3);
    x.come(seedOf(1 + 8), false);
    due("and the last", x.peeled(), 4);
  }

  private static void solved() {
    promise = 32;
    Trellisworks x = works();
    layWord(x, 0, "1 2 4 8");
    x.source(0);
    due("no drops", x.solved(), 0);
    x.come(seedOf(1 + 2), false);
    x.come(seedOf(2 + 4), false);
    due("two pairs", x.solved(), 0);
    x.come(seedOf(1 + 4), false);
    due("the third pair tells nothing more", x.solved(), 0);
    promise = 33;
    refused("not told", x, NONE, y -> y.piece(0));
    refused("no such piece", x, INDEX, y -> y.piece(4));
    refused("piece -1", x, INDEX, y -> y.piece(-1));
    x.come(seedOf(1 + 2 + 4), false);
    due("told", x.piece(0), 1);
    due("told 1", x.piece(1), 2);
    due("told 2", x.piece(2), 4);
    refused("the last is not", x, NONE, y -> y.piece(3));
    promise = 32;
    due("three", x.solved(), 3);
    x.come(seedOf(8), true);
    due("a flipped one is told as it came", x.solved(), 4);
    promise = 33;
    due("9", x.piece(3), 9);
    promise = 32;
    x.come(seedOf(8), false);
    due("against each other", x.solved(), -1);
    promise = 33;
    refused("against each other", x, NONE, y -> y.piece(0));
    refused("no such piece all the same", x, INDEX, y -> y.piece(12));
    promise = 31;
    due("peeling goes on", x.peeled(), 1);
  }

  private static final String SYNC = "1 1 1 0 0 1 0 1";

  private static void frame() {
    promise = 34;
    Trellisworks x = works();
    lay(x, 0, 1);
    due("one bit", x.frame(0, 0, 1), 37);
    // the first draw of the seed 77 is 18597, which is odd
    due("frame", row(x, 1), SYNC + " 0 0 0 0 0 0 0 0 0 0 0 0 0 0 0 0 0 0 0 0 0 1 1 1" + " 0" + " 0 0 1 1");
    layWord(x, 0, "1 0 1 1 0 0 1 1 1 0 0 0 1 1 1 1 0 0 0 0 1 1 1 1 1 0 1 0");
    due("28 bits", x.frame(3, 0, 0), 64);
    String header = "1 1 1 1 1 1 0 0 0 1 1 1 1 1 1 1 1 1 0 0 0 0 0 0";
    due("type 3, length 28", row(x, 0).startsWith(SYNC + " " + header + " "), true);
    refused("from 16", x, INDEX, y -> y.frame(9, 16, 1));
    refused("to -1", x, INDEX, y -> y.frame(9, 0, -1));
    refused("type 4", x, ARGUMENT, y -> y.frame(4, 9, 1));
    refused("type -1", x, ARGUMENT, y -> y.frame(-1, 0, 1));
    refused("an empty row", x, UNFIT, y -> y.frame(0, 9, 1));
    refused("64 bits", x, UNFIT, y -> y.frame(0, 0, 1));
    layWord(x, 0, "1 0 1 1 0 0 1 1 1 0 0 0 1 1 1 1 0 0 0 0 1 1 1 1 1 0 1 0 1");
    refused("29 bits", x, UNFIT, y -> y.frame(0, 0, 1));
    layWord(x, 0, "1 0 -1");
    refused("no bits", x, UNFIT, y -> y.frame(0, 0, 1));
  }

  private static void sync() {
    promise = 35;
    Trellisworks x = works();
    layWord(x, 0, "0 0 " + SYNC + " 1");
    due("found", x.sync(0, 0), 2);
    layWord(x, 0, "0 0 1 1 1 0 0 1 0 0 1");
    refused("one other", x, NONE, y -> y.sync(0, 0));
    due("may be", x.sync(0, 1), 2);
    layWord(x, 0, "1 1 1 0 0 0 1 0 " + SYNC);
    due("three others first", x.sync(0, 3), 0);
    due("or right", x.sync(0, 0), 8);
    layWord(x, 0, SYNC);
    due("the whole row", x.sync(0, 0), 0);
    layWord(x, 1, SYNC.substring(0, 13));
    refused("too short", x, NONE, y -> y.sync(1, 3));
    refused("no shelf", x, INDEX, y -> y.sync(16, 9));
    refused("most -1", x, ARGUMENT, y -> y.sync(0, -1));
    layWord(x, 0, SYNC + " 2");
    refused("most 4", x, ARGUMENT, y -> y.sync(0, 4));
    refused("no bits", x, UNFIT, y -> y.sync(0, 0));
    refused("an empty row", x, NONE, y -> y.sync(9, 0));
  }

  private static void flip(Trellisworks x, int shelf, int... places) {
    String[] row = row(x, shelf).split(" ");
    for (int place : places) row[place] = row[place].equals("1") ? "0" : "1";
    layWord(x, shelf, String.join(" ", row));
  }

  private static void read() {
    promise = 36;
    Trellisworks x = works();
    String message = "1 0 0 1 1 1 0";
    layWord(x, 0, message);
    due("frame", x.frame(2, 0, 1), 43);
    due("type", x.read(1, 0, 2), 2);
    due("row", row(x, 2), message);
    flip(x, 1, 8, 13, 30);
    due("one of three is outvoted", x.read(1, 0, 2), 2);
    flip(x, 1, 0, 1, 2, 3);
    due("the sync word is not looked at", x.read(1, 0, 2), 2);
    String right = row(x, 1);
    for (int place = 32; place < 43; place++) {
      Trellisworks wrong = works();
      layWord(wrong, 1, right);
      flip(wrong, 1, place);
      refused("a wrong bit " + place, wrong, NONE, y -> y.read(1, 0, 2));
    }
    x = works();
    layWord(x, 1, right);
    flip(x, 1, 9);
    due("two of three outvote", x.read(1, 0, 2), 0);
    String frame = row(x, 1);
    layWord(x, 1, "0 1 " + frame + " 1 1");
    due("at a place", x.read(1, 2, 3), 0);
    due("its row", row(x, 3), message);
    layWord(x, 1, frame);
    due("onto itself", x.read(1, 0, 1), 0);
    due("the row there", row(x, 1), message);
    layWord(x, 1, frame.substring(0, frame.length() - 2));
    refused("too short for what the header tells", x, UNFIT, y -> y.read(1, 0, 2));
    layWord(x, 1, frame.substring(0, 2 * 32 - 1));
    refused("a header alone", x, UNFIT, y -> y.read(1, 0, 2));
    layWord(x, 1, frame.substring(0, 2 * 31 - 1));
    refused("less than a header", x, UNFIT, y -> y.read(1, 0, 2));
    String zeros = "0 0 0 0 0 0 0 0 0 0 0 0 0 0 0 0 0 0 0 0 0 0 0 0";
    x = works();
    layWord(x, 1, SYNC + " " + zeros + " 0 0 0 0");
    refused("length 0", x, NONE, y -> y.read(1, 0, 2));
    layWord(x, 1, SYNC + " " + zeros + " 0 0 0");
    refused("length 0 without room for a rest", x, UNFIT, y -> y.read(1, 0, 2));
    layWord(x, 1, SYNC + " 0 0 0 0 0 0 1 1 1 1 1 1 1 1 1 1 1 1 1 1 1 1 1 1 " + zeros + " 1 1 1 1 1 1 1 1");
    refused("length 63 has no room in a row", x, UNFIT, y -> y.read(1, 0, 2));
    layWord(x, 1, frame + " 2");
    refused("no bits", x, UNFIT, y -> y.read(1, 0, 2));
    refused("no place 44", x, INDEX, y -> y.read(1, 44, 2));
    refused("no place -1", x, INDEX, y -> y.read(1, -1, 2));
    refused("no place in an empty row", x, INDEX, y -> y.read(9, 0, 2));
    refused("no shelf from", x, INDEX, y -> y.read(16, 0, 2));
    refused("no shelf to", x, INDEX, y -> y.read(1, 0, 16));
  }

  private static void request() {
    promise = 37;
    Trellisworks x = allKinds();
    int ring = x.shift(4, 31, 21, 0, 'b', 15);
    layWord(x, 0, "1 0 1 1 0 0 1 1 1 0 0 0");
    for (int i = 0; i < 7; i++) due("request " + i, x.request(1, 0), i);
    refused("no code", x, INDEX, y -> y.request(9, 0));
    refused("no shelf", x, INDEX, y -> y.request(1, 16));
    for (int i : new int[] {0, 2, 3, 4, 5}) refused("kind " + i, x, UNFIT, y -> y.request(i, 0));
    refused("an empty row", x, UNFIT, y -> y.request(1, 9));
    layWord(x, 1, "1 0 2");
    refused("no bits", x, UNFIT, y -> y.request(1, 1));
    layWord(x, 1, "1 0 1 1 0 0 1 1 1 0 0 0 1");
    refused("13 bits", x, UNFIT, y -> y.request(1, 1));
    layWord(x, 1, "1 0 1");
    refused("no message of the ring", x, UNFIT, y -> y.request(ring, 1));
    layWord(x, 1, "1 0 1 1");
    due("the ring's least", x.request(ring, 1), 7);
    refused("a ninth", x, STATE, y -> y.request(1, 0));
    refused("a ninth that is none", x, UNFIT, y -> y.request(1, 9));
  }

  private static void send() {
    promise = 38;
    Trellisworks x = works();
    x.shift(2, 7, 5, 0, 't', 15);
    layWord(x, 0, "1 0 1 1 0");
    x.request(0, 0);
    x.request(0, 0);
    due("without noise", x.send(0, 0, 'f', 0, 0), true);
    refused("accepted already", x, UNFIT, y -> y.send(0, 1, 'f', 0, 0));
    refused("no request", x, INDEX, y -> y.send(2, 9, 'x', -1, -1));
    refused("request -1", x, INDEX, y -> y.send(-1, 0, 'f', 0, 0));
    refused("version 4", x, ARGUMENT, y -> y.send(0, 4, 'f', 0, 0));
    refused("version -1", x, ARGUMENT, y -> y.send(0, -1, 'f', 0, 0));
    refused("kind", x, ARGUMENT, y -> y.send(0, 0, 'x', 0, 0));
    refused("odds -1", x, ARGUMENT, y -> y.send(0, 0, 'f', -1, 0));
    refused("odds 1001", x, ARGUMENT, y -> y.send(1, 0, 'f', 1001, 0));
    refused("seed -1", x, ARGUMENT, y -> y.send(1, 0, 'f', 0, -1));
    refused("seed 100000", x, ARGUMENT, y -> y.send(1, 0, 'f', 0, 100000));
    // one output of each step is kept: none of the versions tells enough alone, both together do
    x = works();
    layWord(x, 1, "1 0 0 0 0 0 0 0 0 0 0 0");
    x.shift(2, 7, 5, 0, 't', 1);
    layWord(x, 0, "1 1 1 1");
    x.request(0, 0);
    Model model = new Model();
    for (int z : new int[] {1, 0, 0, 0, 0, 0, 0, 0, 0, 0, 0, 0}) model.put(1, z);
    model.shift(2, 7, 5, 0, 't', 1);
    for (int i = 0; i < 4; i++) model.put(0, 1);
    model.request(0, 0);
    boolean isAccepted = false;
    for (int i = 0; i < 6 && !isAccepted; i++) {
      isAccepted = x.send(0, i % 4, 'f', 0, i);
      due("sending " + i, isAccepted, model.send(0, i % 4, 'f', 0, i));
    }
    sixSendings();
  }

  /** All that is sent is heard as 0: then the message of 0 alone is the best one, and its rest is right. */
  private static void sixSendings() {
    Trellisworks x = works();
    x.shift(2, 7, 5, 0, 't', 15);
    layWord(x, 0, "1 0 1 1 0");
    int request = -1;
    int seed = -1;
    // flips of half of the numbers are often refused: look for a request that is refused six times
    for (int first = 0; first < 90000 && request < 0; first += 6) {
      Trellisworks y = works();
      y.shift(2, 7, 5, 0, 't', 15);
      layWord(y, 0, "1 0 1 1 0");
      y.request(0, 0);
      boolean isAny = false;
      for (int i = 0; i < 6 && !isAny; i++) isAny = y.send(0, 0, 'f', 500, first + i);
      if (isAny) continue;
      request = 0;
      seed = first;
      x = y;
    }
    due("one is refused six times", request, 0);
    due("sendings", x.sendings(0), 6);
    refused("a seventh", x, STATE, y -> y.send(0, 0, 'f', 0, 0));
    refused("a seventh out of range", x, ARGUMENT, y -> y.send(0, 0, 'f', 0, -1));
    due("its seed", seed >= 0, true);
    Trellisworks holes = works();
    holes.shift(2, 7, 5, 0, 't', 15);
    layWord(holes, 0, "1 0 1 1 0");
    holes.request(0, 0);
    due("nothing but holes", holes.send(0, 0, 'h', 1000, 0), true);
    due("is the message of 0", holes.unseen(), 1);
  }

  private static void sendings() {
    promise = 39;
    Trellisworks x = works();
    x.shift(2, 7, 5, 0, 't', 15);
    layWord(x, 0, "1 0 1 1 0");
    x.request(0, 0);
    x.request(0, 0);
    due("none", x.sendings(0), 0);
    x.send(0, 0, 'f', 0, 0);
    due("one", x.sendings(0), 1);
    due("of its own", x.sendings(1), 0);
    refused("no request", x, INDEX, y -> y.sendings(2));
    refused("request -1", x, INDEX, y -> y.sendings(-1));
  }

  private static void unseen() {
    promise = 40;
    Trellisworks x = works();
    x.shift(2, 7, 5, 0, 't', 15);
    layWord(x, 0, "1 0 1 1 0");
    layWord(x, 1, "0 0 0 0 0");
    x.request(0, 0);
    x.request(0, 1);
    x.request(0, 0);
    x.send(0, 0, 'f', 0, 0);
    due("the message that was sent", x.unseen(), 0);
    x.send(1, 0, 'h', 1000, 0);
    due("nothing heard is the message of 0, which was sent", x.unseen(), 0);
    x.send(2, 0, 'h', 1000, 0);
    due("which was not", x.unseen(), 1);
    due("sound all the same", x.isSound(), true);
  }

  private static Trellisworks fresh() {
    Trellisworks y = works();
    y.shift(2, 7, 5, 0, 't', 15);
    layWord(y, 0, "1 0 1 1 0");
    for (int i = 0; i < 8; i++) y.request(0, 0);
    return y;
  }

  /** Does so many sendings, a letter each: a to be accepted, r to be refused; seeds are looked for as it goes. */
  private static Trellisworks sent(String sendings) {
    List<int[]> done = new ArrayList<>();
    int open = 0;
    int refusedThere = 0;
    for (char c : sendings.toCharArray()) {
      // what was refused once may be refused for long, and is no longer sure to be accepted
      if (refusedThere == 6 || c == 'a' && refusedThere > 0) {
        open++;
        refusedThere = 0;
      }
      int[] call = {open, c == 'a' ? 0 : 500, -1};
      for (int seed = 0; call[2] < 0; seed++) {
        Trellisworks y = again(done);
        if (y.send(open, 0, 'f', call[1], seed) == (c == 'a')) call[2] = seed;
      }
      done.add(call);
      if (c == 'a') open++;
      else refusedThere++;
    }
    return again(done);
  }

  private static Trellisworks again(List<int[]> done) {
    Trellisworks x = fresh();
    for (int[] call : done) x.send(call[0], 0, 'f', call[1], call[2]);
    return x;
  }

  /** The rates behind each of some sendings. */
  private static String rates(String sendings) {
    StringBuilder out = new StringBuilder();
    for (int i = 1; i <= sendings.length(); i++) out.append(sent(sendings.substring(0, i)).rate());
    return out.toString();
  }

  private static void rate() {
    promise = 41;
    due("at first", works().rate(), 0);
    due("three accepted", rates("aaa"), "001");
    due("counted anew", rates("aaaaaaaa"), "00111222");
    due("broken off", rates("aaraaa"), "000001");
    due("two refused", rates("aaarr"), "00110");
    due("one refused", rates("aaarar"), "001111");
    due("the least stays", rates("rraaa"), "00001");
    due("three refused at the least", rates("rrraaarr"), "00000110");
    due("three refused are one less", rates("aaaaaarrr"), "001112211");
    due("four refused are two less", rates("aaaaaarrrrr"), "00111221100");
    due("accepted between", rates("aaarararr"), "001111110");
  }

  private static void compare() {
    promise = 42;
    Trellisworks x = allKinds();
    int checked = x.splits(1, 2, 8, true);
    // a row whose list of 1 gives up and whose list of 4 does not, without noise
    layWord(x, 0, "-5 3");
    due("the first seed at once", x.compare(checked, 0, 'f', 0, 50), 50);
    due("the row stays", row(x, 0), "-5 3");
    layWord(x, 0, "5 3");
    due("alike for all ten", x.compare(checked, 0, 'f', 0, 50), -1);
    due("last seed", x.compare(checked, 0, 'f', 0, 99999), -1);
    // -5 3 and -5 -3 begin with a row whose check is wrong, 5 3 and 5 -3 do not
    int last = 0;
    int none = 0;
    for (int seed = 0; seed < 400; seed++) {
      int first = -1;
      for (int s = seed; s < seed + 10 && first < 0; s++) {
        if (Model.draws(s, 1)[0] % 1000 < 60) first = s;
      }
      due("the first of ten seeds", x.compare(checked, 0, 'f', 60, seed), first);
      if (first == seed + 9) last++;
      if (first < 0) none++;
    }
    due("some are unlike for the tenth seed alone, some for none", last > 0 && none > 0, true);
    x = allKinds();
    layWord(x, 0, "9 9 9");
    due("a graph without noise", x.compare(3, 0, 'd', 0, 0), -1);
    refused("no code", x, INDEX, y -> y.compare(9, 0, 'x', -1, -1));
    refused("no shelf", x, INDEX, y -> y.compare(3, 16, 'x', -1, -1));
    for (int i : new int[] {0, 1, 2, 5}) refused("kind " + i, x, ARGUMENT, y -> y.compare(i, 9, 'f', 0, 0));
    refused("noise", x, ARGUMENT, y -> y.compare(3, 9, 'x', 0, 0));
    refused("odds -1", x, ARGUMENT, y -> y.compare(3, 9, 'f', -1, 0));
    refused("odds 1001", x, ARGUMENT, y -> y.compare(3, 9, 'f', 1001, 0));
    refused("seed -1", x, ARGUMENT, y -> y.compare(3, 9, 'f', 0, -1));
    refused("seed 100000", x, ARGUMENT, y -> y.compare(3, 9, 'f', 0, 100000));
    refused("an empty row", x, UNFIT, y -> y.compare(3, 9, 'f', 0, 0));
    refused("an empty row of splits", x, UNFIT, y -> y.compare(4, 9, 'f', 0, 0));
  }

  private static void acceptedShare() {
    promise = 43;
    Trellisworks x = works();
    refused("no sendings", x, ARITHMETIC, y -> y.acceptedShare());
    refused("no sendings yet", fresh(), ARITHMETIC, y -> y.acceptedShare());
    due("none of one", sent("r").acceptedShare(), 0f);
    due("one of two", sent("ra").acceptedShare(), 0.5f);
    due("two of three", sent("raa").acceptedShare(), 2f / 3f);
    due("one of three", sent("rra").acceptedShare(), 1f / 3f);
  }

  private static void mean() {
    promise = 44;
    Trellisworks x = works();
    refused("empty", x, ARITHMETIC, y -> y.mean(0));
    refused("no shelf", x, INDEX, y -> y.mean(16));
    refused("shelf -1", x, INDEX, y -> y.mean(-1));
    lay(x, 0, 1, 2, -5);
    due("mean", x.mean(0), -2.0 / 3.0);
    lay(x, 0, 0);
    due("zero", x.mean(0), 0.0);
    for (int i = 1; i < 64; i++) x.put(0, 999);
    due("great", x.mean(0), 63 * 999 / 64.0);
  }

  private static void isSound() {
    promise = 45;
    Trellisworks x = allKinds();
    due("codes", x.isSound(), true);
    layWord(x, 0, "7 250 33");
    x.source(0);
    for (int i = 0; i < 10; i++) {
      x.come(i, false);
      due("drops", x.isSound(), true);
    }
    x.come(1, true);
    due("drops against each other", x.isSound(), true);
    layWord(x, 0, "1 0 1 1 0");
    x.request(1, 0);
    for (int i = 0; i < 3; i++) {
      answer(x, y -> y.send(0, 0, 'f', 300, 4));
      due("requests", x.isSound(), true);
    }
    for (int power = 1; power <= 4; power++) {
      Trellisworks y = works();
      for (int open = 1; open <= 1 << power && open <= 10; open++) {
        y.splits(power, open, 1 + open, false);
        int found = 0;
        for (int i = 0; i < 1 << power; i++) if (y.isOpen(open - 1, i)) found++;
        due("open places", found, open);
      }
      due("splits", y.isSound(), true);
    }
  }
}
