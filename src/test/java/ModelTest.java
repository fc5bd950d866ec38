import java.lang.reflect.InvocationTargetException;
import java.lang.reflect.Method;
import java.util.ArrayList;
import java.util.HashMap;
import java.util.List;
import java.util.Map;
import java.util.Random;

/**
 * Long runs of drawn calls, answered by the class and by the model: each answer must be alike. Now and then an object
 * that has been called just so is made, and its shelves are looked at, so that none is called more than 512 times.
 */
public final class ModelTest {
  private static final int MOST_CALLS = 512;
  private static final Map<String, Method> FACE = new HashMap<>();
  private static final Map<String, Method> MODEL = new HashMap<>();
  private static final Map<String, Integer> ANSWERED = new HashMap<>();
  private static final Map<String, Integer> REFUSED = new HashMap<>();

  private final Random random;
  private final Trellisworks works = new Trellisworks();
  private final Model model = new Model();
  private final List<String> names = new ArrayList<>();
  private final List<Object[]> arguments = new ArrayList<>();

  private ModelTest(long seed) {
    random = new Random(seed);
  }

  public static void main(String[] args) {
    int runs = args.length > 0 ? Integer.parseInt(args[0]) : 400;
    long first = args.length > 1 ? Long.parseLong(args[1]) : 1;
    for (Method m : Trellisworks.class.getDeclaredMethods()) if (java.lang.reflect.Modifier.isPublic(m.getModifiers())) FACE.put(m.getName(), m);
    for (Method m : Model.class.getDeclaredMethods()) if (FACE.containsKey(m.getName())) {
      m.setAccessible(true);
      MODEL.put(m.getName(), m);
    }
    Check.same("the model has the whole face", MODEL.keySet(), FACE.keySet());
    for (long seed = first; seed < first + runs && Check.wrongs() == 0; seed++) new ModelTest(seed).run();
    for (String name : FACE.keySet()) {
      Check.is(name + " answered often enough: " + ANSWERED.getOrDefault(name, 0), runs < 400 || ANSWERED.getOrDefault(name, 0) >= 50);
    }
    if (args.length > 0) {
      System.out.println("answered " + ANSWERED);
      System.out.println("refused " + REFUSED);
    }
    Check.end();
  }

  private void run() {
    while (names.size() < 450 && Check.wrongs() == 0) {
      switch (pick(16)) {
        case 0 -> addCode();
        case 1, 2 -> askNoise();
        case 3 -> askShelf();
        case 4, 5 -> fillAndUse();
        case 6 -> askDrops();
        case 7 -> askFrames();
        case 8, 9 -> askAgain();
        case 10 -> askGraph();
        case 11 -> askCounts();
        case 12 -> askWrong();
        default -> codeTrip();
      }
    }
    look();
    if (Check.wrongs() == 0) return;
    System.out.println("the run was:");
    for (int i = 0; i < names.size(); i++) System.out.println(names.get(i) + List.of(arguments.get(i)));
  }

  // ---- draws of this test's own

  private int pick(int many) {
    return random.nextInt(many);
  }

  private int shelf() {
    return pick(60) == 0 ? pick(2) * 17 - 1 : pick(16);
  }

  private int code() {
    int have = model.codes.size();
    return have == 0 || pick(60) == 0 ? pick(12) - 1 : pick(have);
  }

  /** Mostly a code of one of these kinds, if there is one. */
  private int codeOf(String kinds) {
    List<Integer> of = new ArrayList<>();
    for (int i = 0; i < model.codes.size(); i++) if (kinds.indexOf(model.codes.get(i).kind) >= 0) of.add(i);
    return of.isEmpty() || pick(15) == 0 ? code() : of.get(pick(of.size()));
  }

  private int about(int least, int most) {
    return pick(25) == 0 ? (pick(2) == 0 ? least - 1 : most + 1) : least + pick(most - least + 1);
  }

  private char one(String of) {
    return pick(25) == 0 ? (char) pick(300) : of.charAt(pick(of.length()));
  }

  private void fill(int shelf, List<Integer> row) {
    if (shelf < 0 || shelf > 15) return;
    call("clear", shelf);
    for (int z : row) call("put", shelf, z);
  }

  private List<Integer> row(int many, int least, int most) {
    List<Integer> out = new ArrayList<>();
    for (int i = 0; i < many; i++) out.add(least + pick(most - least + 1));
    return out;
  }

  private List<Integer> softRow(int many) {
    int reach = new int[] {1, 2, 5, 20, 60, 999}[pick(6)];
    return row(many, pick(6) == 0 ? 0 : -reach, reach);
  }

  /** As many numbers as the words of a code have, or nearly so. */
  private List<Integer> rowFor(Model.Coded c) {
    int off = pick(30) == 0 ? pick(3) - 1 : 0;
    switch (c.kind) {
      case 'r': {
        List<Integer> out = row(c.message + c.checks + off, 0, c.elements - 1);
        for (int i = 0; i < out.size(); i++) if (pick(4) == 0) out.set(i, -1);
        if (pick(20) == 0 && !out.isEmpty()) out.set(0, pick(2) == 0 ? c.elements : -2);
        return out;
      }
      case 'c': {
        int steps = 1 + pick(pick(3) == 0 ? 20 : 12);
        int many = 0;
        for (int i = 0; i < steps * c.generators.length; i++) many += c.holes.get(i % c.holes.size());
        return softRow(many);
      }
      case 't':
        return softRow(3 * c.order.length + off);
      case 'l':
        return softRow(c.edges[0].length + off);
      case 'p':
        return softRow((1 << c.power) + off);
      default:
        return row(49 + off, 0, 1);
    }
  }

  private List<Integer> messageFor(Model.Coded c) {
    int off = pick(30) == 0 ? pick(3) - 1 : 0;
    switch (c.kind) {
      case 'r':
        return row(Math.max(0, c.message + off), 0, c.elements - 1 + (pick(20) == 0 ? 1 : 0));
      case 'c':
        return row(pick(3) == 0 ? pick(18) : c.memory + pick(9), 0, 1);
      case 't':
        return row(c.order.length + off, 0, 1);
      case 'l': {
        int rank = Math.min(c.edges.length, c.edges[0].length);
        for (int free = c.edges[0].length; free >= 0; free--) {
          if (pick(3) == 0 || free == c.edges[0].length - rank) return row(free, 0, 1);
        }
        return row(1, 0, 1);
      }
      case 'p':
        return row(Math.max(0, c.open.size() - (c.isChecked ? 1 : 0) + off), 0, 1);
      default:
        return row(16 + off, 0, 1);
    }
  }

  // ---- kinds of calls

  private void addCode() {
    switch (pick(7)) {
      case 0 -> call("roots", pick(25) == 0 ? pick(20) : 8 * (1 + pick(2)), about(1, pick(3) == 0 ? 13 : 4), about(2, 6));
      case 1, 2 -> {
        int holes = pick(16);
        int third = pick(2) * (1 + pick(7));
        if (pick(2) == 0) fill(holes, List.of());
        else fill(holes, row(pick(12) == 0 ? pick(15) : (third == 0 ? 2 : 3) * (1 + pick(4)), pick(30) == 0 ? -1 : 0, 1));
        int memory = about(1, 4);
        int top = (2 << Math.max(memory, 0)) - 1;
        call("shift", memory, about(1, top), about(1, top), Math.min(third, top), one("tb"), pick(30) == 0 ? 16 : holes);
      }
      case 3 -> call("twins", about(4, 10), one("srd"), about(1, pick(2) == 0 ? 9 : 99), about(0, pick(2) == 0 ? 30 : 99999));
      case 4 -> {
        int before = model.codes.size();
        int bits = about(2, 16);
        int checks = about(1, 8);
        call("graph", bits, checks);
        if (model.codes.size() > before) {
          for (int i = pick(3 * bits); i > 0; i--) call("edge", before, pick(checks), pick(bits));
        }
      }
      case 5 -> {
        int power = about(1, 4);
        call("splits", power, about(1, 1 << Math.max(power, 0)), about(1, 15), pick(2) == 0);
      }
      default -> {
        if (pick(3) == 0) call("product");
      }
    }
  }

  private void askNoise() {
    call("noise", shelf(), one("fhdb"), pick(3) == 0 ? about(0, 1000) : pick(300), about(-999, 999), seed());
  }

  private int seed() {
    return pick(3) == 0 ? about(0, 99999) : pick(100);
  }

  private void askShelf() {
    int shelf = shelf();
    switch (pick(6)) {
      case 0 -> call("put", shelf, about(-999, 999));
      case 1 -> call("clear", shelf);
      case 2 -> call("size", shelf);
      case 3 -> call("at", shelf, pick(10));
      case 4 -> call("mean", shelf);
      default -> call("soften", shelf, about(1, 99), shelf());
    }
  }

  private void fillAndUse() {
    if (model.codes.isEmpty()) return;
    int code = pick(model.codes.size());
    Model.Coded c = model.codes.get(code);
    int from = pick(16);
    fill(from, rowFor(c));
    if (c.kind == 'c' && pick(3) == 0) call("noise", from, 'h', 300, 0, seed());
    decode(code, from);
  }

  private void decode(int code, int from) {
    int to = shelf();
    Model.Coded c = model.codes.get(code);
    switch (pick(12) == 0 ? "rctlph".charAt(pick(6)) : c.kind) {
      case 'c' -> {
        call("decodeList", code, from, about(0, 3), to);
        call("early", code, from, about(1, pick(2) == 0 ? 20 : 6));
        call("decode", code, from, to);
      }
      case 't' -> call("decodeTwins", code, from, about(1, pick(2) == 0 ? 20 : 3), to);
      case 'l' -> {
        call("decodeGraph", code, from, about(1, 20), one("fc"), pick(2) == 0, to);
        call("compare", code, from, one("fhdb"), about(0, pick(2) == 0 ? 1000 : 200), seed());
      }
      case 'p' -> {
        call("decodeSplits", code, from, about(1, 4), to);
        call("compare", code, from, one("fhdb"), about(0, pick(2) == 0 ? 1000 : 200), seed());
        call("decode", code, from, to);
      }
      default -> call("decode", code, from, to);
    }
  }

  private void codeTrip() {
    if (model.codes.isEmpty()) return;
    int code = pick(model.codes.size());
    Model.Coded c = model.codes.get(code);
    int from = pick(16);
    int to = pick(16);
    fill(from, messageFor(c));
    call("encode", code, from, to);
    if (c.kind == 'r') {
      call("noise", to, 'h', pick(250), pick(2) == 0 ? -1 : pick(8), seed());
      if (pick(2) == 0) call("noise", to, 'h', pick(250), pick(8), seed());
    } else if (c.kind == 'h') {
      call("noise", to, one("fb"), pick(150), 0, seed());
    } else {
      if (pick(4) > 0) call("soften", to, about(1, pick(2) == 0 ? 99 : 9), to);
      call("noise", to, one("fhdb"), pick(250), pick(3) == 0 ? pick(5) - 2 : 0, seed());
    }
    decode(code, to);
  }

  private void askDrops() {
    if (pick(4) == 0 || model.pieces == null && pick(3) > 0) {
      int shelf = pick(16);
      fill(shelf, row(pick(20) == 0 ? 13 : pick(13), pick(30) == 0 ? -1 : 0, pick(30) == 0 ? 256 : 255));
      call("source", shelf);
    }
    for (int i = pick(8); i > 0; i--) call("come", seed(), pick(pick(3) == 0 ? 4 : 40) == 0);
    call("drop", seed());
    call("peeled");
    call("solved");
    call("piece", about(0, model.pieces == null ? 11 : model.pieces.size() - 1));
    call("isSound");
  }

  private void askFrames() {
    int from = pick(16);
    int to = pick(16);
    fill(from, row(pick(20) == 0 ? pick(31) : 1 + pick(12), 0, pick(30) == 0 ? 2 : 1));
    call("frame", about(0, 3), from, to);
    if (pick(2) == 0) call("noise", to, one("fb"), pick(60), 0, seed());
    if (pick(6) == 0) call("put", to, pick(2));
    call("sync", to, about(0, 3));
    call("read", to, pick(3) == 0 ? pick(64) : pick(2) * pick(4), shelf());
    if (pick(4) == 0) {
      fill(to, row(32 + pick(33), 0, 1));
      call("sync", to, about(0, 3));
      call("read", to, pick(33), shelf());
    }
  }

  private void askAgain() {
    if (pick(2) == 0 || model.asked.isEmpty()) {
      int code = codeOf("c");
      int shelf = pick(16);
      fill(shelf, row(pick(8) == 0 ? pick(15) : 1 + pick(8), 0, 1));
      call("request", code, shelf);
    }
    if (model.asked.isEmpty()) return;
    for (int i = pick(5); i > 0; i--) {
      int request = pick(20) == 0 ? pick(10) - 1 : pick(model.asked.size());
      call("send", request, about(0, 3), one("fhdb"), pick(8) == 0 ? about(0, 1000) : pick(500), seed());
      call("sendings", request);
    }
    call("unseen");
    call("rate");
    call("acceptedShare");
    call("isSound");
  }

  private void askGraph() {
    int code = codeOf("l");
    call("edge", code, about(0, 7), about(0, 15));
    call("ringsOfFour", code);
    call("traps", code, about(1, 3), about(0, 8));
  }

  private void askCounts() {
    call("weight", codeOf("lpc"), about(1, pick(4) == 0 ? 12 : 6), about(0, 20));
    call("allows", one("shg"), about(1, 40), about(1, 40), about(1, 40));
    call("allows", one("shg"), about(1, 40), about(1, 10), about(1, 10));
    call("isOpen", codeOf("p"), about(0, 15));
    call("kindOf", code());
  }

  private void askWrong() {
    List<String> names = new ArrayList<>(FACE.keySet());
    names.sort(null);
    Method m = FACE.get(names.get(pick(names.size())));
    Object[] args = new Object[m.getParameterCount()];
    int[] odd = {Integer.MIN_VALUE, Integer.MAX_VALUE, -1, 0, 1, 2, 3, 7, 8, 15, 16, 17, 64, 1000, 100000};
    for (int i = 0; i < args.length; i++) {
      Class<?> type = m.getParameterTypes()[i];
      if (type == char.class) args[i] = one("fhdbtsrcg");
      else if (type == boolean.class) args[i] = pick(2) == 0;
      else args[i] = pick(2) == 0 ? pick(10) : odd[pick(odd.length)];
    }
    call(m.getName(), args);
  }

  // ---- one call on both

  private void call(String name, Object... args) {
    if (names.size() >= MOST_CALLS || Check.wrongs() > 0) return;
    names.add(name);
    arguments.add(args);
    Object want = answer(MODEL.get(name), model, args);
    Object got = answer(FACE.get(name), works, args);
    Check.same(name + List.of(args), got, want);
    Map<String, Integer> count = want instanceof Class ? REFUSED : ANSWERED;
    count.merge(name, 1, Integer::sum);
    if (pick(8) == 0) look();
  }

  /** Looks at the shelves of another object, those first that the last call names, for as long as it may be called. */
  private void look() {
    Trellisworks other = new Trellisworks();
    int left = MOST_CALLS - names.size();
    for (int i = 0; i < names.size(); i++) answer(FACE.get(names.get(i)), other, arguments.get(i));
    for (int shelf : shelvesToLookAt()) {
      List<Integer> due = model.shelves.get(shelf);
      left -= 1 + due.size();
      if (left < 0) return;
      int size = other.size(shelf);
      Check.same("numbers of the shelf " + shelf, size, due.size());
      if (size != due.size()) return;
      List<Integer> row = new ArrayList<>();
      for (int i = 0; i < due.size(); i++) row.add(other.at(shelf, i));
      Check.same("shelf " + shelf, row, due);
    }
  }

  private List<Integer> shelvesToLookAt() {
    List<Integer> out = new ArrayList<>();
    for (int i = 0; i < 16; i++) out.add(i);
    java.util.Collections.shuffle(out, random);
    for (Object z : arguments.get(arguments.size() - 1)) {
      if (z instanceof Integer shelf && out.remove(shelf)) out.add(0, shelf);
    }
    return out;
  }

  private static Object answer(Method m, Object on, Object[] args) {
    try {
      return m.invoke(on, args);
    } catch (InvocationTargetException e) {
      if (e.getCause() instanceof Error error) throw error;
      return e.getCause().getClass();
    } catch (IllegalAccessException e) {
      throw new IllegalStateException(e);
    }
  }
}
