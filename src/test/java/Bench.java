import java.lang.reflect.InvocationTargetException;
import java.lang.reflect.Method;
import java.lang.reflect.Modifier;
import java.util.ArrayList;
import java.util.Arrays;
import java.util.HashMap;
import java.util.HashSet;
import java.util.List;
import java.util.Map;
import java.util.NoSuchElementException;
import java.util.Set;

/**
 * A bench that is called by the names of calls and tells what is due. The model answers each call, too. What was called
 * is kept, so that objects that stand as this one does can be made again, to be looked at or to be tried with a call;
 * none of them is called more than 512 times, behind which the document promises nothing.
 */
final class Bench {
  static final Class<?> INDEX = IndexOutOfBoundsException.class;
  static final Class<?> ARGUMENT = IllegalArgumentException.class;
  static final Class<?> STATE = IllegalStateException.class;
  static final Class<?> UNFIT = UnsupportedOperationException.class;
  static final Class<?> NONE = NoSuchElementException.class;
  static final Class<?> ARITHMETIC = ArithmeticException.class;

  /** Stands in the arguments of a call for the number that is tried. */
  static final Object Z = new Object();

  private static final int MOST_CALLS = 512;
  private static final Map<String, Method> FACE = methods(Trellisworks.class);
  private static final Map<String, Method> MODEL = methods(Model.class);
  private static String sentence = "";

  /** Which exceptions of a call were met, and of which of its arguments the edges were tried. */
  private static final Set<String> MET = new HashSet<>();
  private static final Set<String> TRIED = new HashSet<>();

  private final List<Called> story = new ArrayList<>();
  private final Played works = new Played(new Trellisworks());
  private final Model model = new Model();

  private record Called(String name, Object[] args, boolean isRefused) {
    @Override
    public String toString() {
      return name + Arrays.toString(args);
    }
  }

  /** An object of the class whose calls are counted. */
  private static final class Played {
    private final Trellisworks x;
    private int calls = 0;

    Played(Trellisworks x) {
      this.x = x;
    }

    Object answer(String name, Object... args) {
      calls++;
      if (calls > MOST_CALLS) throw new AssertionError(sentence + ": more than 512 calls of one object");
      return call(FACE, x, name, args);
    }
  }

  private static Map<String, Method> methods(Class<?> of) {
    Map<String, Method> out = new HashMap<>();
    for (Method m : of.getDeclaredMethods()) {
      if (of == Trellisworks.class && !Modifier.isPublic(m.getModifiers())) continue;
      m.setAccessible(true);
      out.put(m.getName(), m);
    }
    return out;
  }

  private static Object call(Map<String, Method> methods, Object on, String name, Object... args) {
    try {
      return methods.get(name).invoke(on, args);
    } catch (InvocationTargetException e) {
      if (e.getCause() instanceof Error error) throw error;
      return e.getCause().getClass();
    } catch (IllegalAccessException e) {
      throw new AssertionError(e);
    }
  }

  /** Names the sentence of the document whose edges the next calls are about. */
  static void says(String of) {
    sentence = of;
  }

  private void same(Called last, String what, Object got, Object want) {
    Object due = got instanceof Long && want instanceof Integer number ? Long.valueOf(number) : want;
    Check.same(due.equals(got) ? "" : "\"" + sentence + "\": " + storyTold() + last + what, got, due);
  }

  /** The calls so far that were not refused, without those of rows ahead of the last ones. */
  private String storyTold() {
    StringBuilder out = new StringBuilder();
    for (int i = 0; i < story.size(); i++) if (!story.get(i).isRefused && i + 20 > story.size()) out.append(story.get(i)).append(' ');
    return (story.size() > 20 ? ".. " : "") + out + "then ";
  }

  // ---- calls that are answered

  /** A call that must be answered so. */
  void due(Object want, String name, Object... args) {
    Called now = new Called(name, args, want instanceof Class);
    story.add(now);
    Object got = works.answer(name, args);
    same(now, "", got, want);
    same(now, " by the model", call(MODEL, model, name, args), got);
  }

  /** A call whose answer only the model tells. */
  Object does(String name, Object... args) {
    Called now = new Called(name, args, false);
    story.add(now);
    Object got = works.answer(name, args);
    same(now, "", got, call(MODEL, model, name, args));
    return got;
  }

  /** Puts a row on a shelf. */
  Bench lay(int shelf, String row) {
    does("clear", shelf);
    for (String z : row.trim().split("\\s+")) if (!z.isEmpty()) does("put", shelf, Integer.parseInt(z));
    return this;
  }

  /** A shelf must have this row, which is looked up in another object. */
  void dueRow(int shelf, String want) {
    Called now = new Called("row", new Object[] {shelf}, false);
    same(now, "", rowOf(again(true), shelf), want.trim());
    same(now, " by the model", model.shelves.get(shelf).toString().replaceAll("[\\[\\],]", ""), want.trim());
  }

  /** The row of a shelf, on which the class and the model must be at one. */
  List<Integer> row(int shelf) {
    List<Integer> row = new ArrayList<>(model.shelves.get(shelf));
    dueRow(shelf, row.toString().replaceAll("[\\[\\],]", ""));
    return row;
  }

  private static String rowOf(Played x, int shelf) {
    StringBuilder out = new StringBuilder();
    int size = (int) x.answer("size", shelf);
    for (int i = 0; i < size; i++) out.append(i == 0 ? "" : " ").append(x.answer("at", shelf, i));
    return out.toString();
  }

  // ---- calls that are tried, of which this bench knows nothing behind

  /** A call that must be answered, and as the model does, with all shelves as in the model. */
  void taken(String name, Object... args) {
    Called now = new Called(name, args, false);
    Played x = again(true);
    Model other = modelAgain();
    Object got = x.answer(name, args);
    if (got instanceof Class) same(now, " is answered", got, "an answer");
    same(now, " by the model", call(MODEL, other, name, args), got);
    for (int i = 0; i < 16; i++) same(now, ", shelf " + i, x.answer("size", i), other.shelves.get(i).size());
  }

  /** What a call would be answered now. */
  Object wouldAnswer(String name, Object... args) {
    return again(true).answer(name, args);
  }

  private Model modelAgain() {
    Model out = new Model();
    for (Called c : story) if (!c.isRefused) call(MODEL, out, c.name, c.args);
    return out;
  }

  private static void noteTried(String name, Object... args) {
    for (int i = 0; i < args.length; i++) if (args[i] == Z) TRIED.add(name + " " + i);
  }

  /** Every exception that a call of the face names must have been met, and of every argument the edges tried. */
  static void wholeFace(Set<String> without) {
    for (Method m : FACE.values()) {
      for (Class<?> exception : m.getExceptionTypes()) Check.is(m.getName() + " has thrown " + exception, MET.contains(m.getName() + " " + exception));
      for (int i = 0; i < m.getParameterCount(); i++) {
        String argument = m.getName() + " " + i;
        boolean isFree = m.getParameterTypes()[i] == boolean.class || without.contains(argument);
        Check.is("the edges of " + argument, isFree || TRIED.contains(argument));
      }
    }
  }

  private static Object[] with(Object z, Object... args) {
    Object[] out = args.clone();
    for (int i = 0; i < out.length; i++) if (out[i] == Z) out[i] = z;
    return out;
  }

  /** The last numbers within are taken; the first ones beyond are refused, and those farthest off. */
  void range(Class<?> want, int least, int most, String name, Object... args) {
    noteTried(name, args);
    taken(name, with(least, args));
    taken(name, with(most, args));
    for (int z : new int[] {least - 1, most + 1, Integer.MIN_VALUE, Integer.MAX_VALUE}) refused(want, name, with(z, args));
  }

  /** Only these signs are taken, all others refused. */
  void signs(Class<?> want, String only, String name, Object... args) {
    noteTried(name, args);
    for (char c = 0; c < 256; c++) {
      if (only.indexOf(c) >= 0) taken(name, with(c, args));
      else if (c % 16 == 0 || Character.isLetter(c) && c < 128) refused(want, name, with(c, args));
    }
    refused(want, name, with((char) (only.charAt(0) + 256), args));
    refused(want, name, with(Character.MAX_VALUE, args));
  }

  /** Codes of these kinds are taken, others refused, and there is none below 0 or from the number of codes on. */
  void codes(Class<?> want, String kinds, String name, Object... args) {
    for (int code = 0; code < model.codes.size(); code++) {
      if (kinds.indexOf(model.codes.get(code).kind) < 0) refused(want, name, with(code, args));
    }
    noCodes(name, args);
  }

  void noCodes(String name, Object... args) {
    noteTried(name, args);
    for (int code : new int[] {-1, model.codes.size(), 10, Integer.MIN_VALUE, Integer.MAX_VALUE}) refused(INDEX, name, with(code, args));
  }

  /** There are the shelves 0 to 15, but this one may not be fit for the call. */
  void noShelves(String name, Object... args) {
    beyond(INDEX, new int[] {-1, 16, Integer.MIN_VALUE, Integer.MAX_VALUE}, name, args);
  }

  /** All of these are refused. */
  void beyond(Class<?> want, int[] all, String name, Object... args) {
    noteTried(name, args);
    for (int z : all) refused(want, name, with(z, args));
  }

  /**
   * A call that must throw this and change nothing: one of two objects that stand as this one does meets it, and both
   * must answer all that follows alike.
   */
  void refused(Class<?> want, String name, Object... args) {
    Called now = new Called(name, args, true);
    MET.add(name + " " + want);
    same(now, " by the model", call(MODEL, model, name, args), want);
    for (int look = 0; look < LOOKS; look++) {
      Played met = again(true);
      Played spared = again(false);
      same(now, "", met.answer(name, args), want);
      same(now, " changes nothing", lookAt(met, look), lookAt(spared, look));
    }
    story.add(now);
    works.answer(name, args);
  }

  private Played again(boolean isWithRefused) {
    Played out = new Played(new Trellisworks());
    for (Called c : story) if (isWithRefused && story.size() < 200 || !c.isRefused) out.answer(c.name, c.args);
    return out;
  }

  // ---- all that can be seen of an object, in parts that go beyond no object's last call

  private static final int LOOKS = 8;

  private static List<Object> lookAt(Played x, int look) {
    List<Object> out = new ArrayList<>();
    if (look < 4) {
      for (int i = 4 * look; i < 4 * look + 4; i++) out.add(rowOf(x, i));
    } else if (look == 4) {
      lookAtCodes(x, out);
    } else if (look == 5) {
      lookAtDecoding(x, out);
    } else if (look == 6) {
      lookAtRequests(x, out);
    } else {
      lookAtDrops(x, out);
    }
    return out;
  }

  private static void lookAtCodes(Played x, List<Object> out) {
    for (int code = 0; code < 10; code++) {
      out.add(x.answer("kindOf", code));
      out.add(x.answer("ringsOfFour", code));
      for (int odd = 0; odd < 3; odd++) out.add(x.answer("traps", code, 1 + odd / 2, odd % 2));
      for (int place = 0; place < 2; place++) out.add(x.answer("isOpen", code, place));
      for (int ones = 0; ones < 4; ones++) out.add(x.answer("weight", code, 4, ones));
      out.add(x.answer("edge", code, 0, 1));
    }
    out.add(x.answer("product"));
  }

  private static void lookAtDecoding(Played x, List<Object> out) {
    for (int code = 0; code < 10; code++) {
      for (int shelf = 0; shelf < 3; shelf++) {
        out.add(x.answer("decode", code, shelf, 14));
        out.add(x.answer("decodeTwins", code, shelf, 3, 14));
        out.add(x.answer("decodeGraph", code, shelf, 3, 'f', true, 13));
        out.add(x.answer("encode", code, shelf, 13));
      }
    }
    out.add(rowOf(x, 13));
    out.add(rowOf(x, 14));
  }

  private static void lookAtRequests(Played x, List<Object> out) {
    for (int i = 0; i < 8; i++) out.add(x.answer("sendings", i));
    for (String name : List.of("unseen", "rate", "acceptedShare", "isSound")) out.add(x.answer(name));
    for (int i = 0; i < 8; i++) {
      out.add(x.answer("send", i, i % 4, 'f', 300, i));
      out.add(x.answer("rate"));
      out.add(x.answer("sendings", i));
      out.add(x.answer("unseen"));
    }
    out.add(x.answer("acceptedShare"));
  }

  private static void lookAtDrops(Played x, List<Object> out) {
    for (int turn = 0; turn < 2; turn++) {
      out.add(x.answer("drop", 5));
      out.add(x.answer("peeled"));
      out.add(x.answer("solved"));
      for (int i = 0; i < 13; i++) out.add(x.answer("piece", i));
      out.add(x.answer("come", 3, turn == 0));
    }
    out.add(x.answer("isSound"));
  }
}
