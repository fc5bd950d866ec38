import java.nio.file.Files;
import java.nio.file.Path;
import java.util.ArrayList;
import java.util.List;

/**
 * The examples of README.md: each of their lines stands here, too, in the same order, and what a comment there says
 * that a call answers is looked up behind it.
 */
public final class ReadmeTest {
  public static void main(String[] args) throws Exception {
    firstExample();
    codes();
    channels();
    drops();
    again();
    looks();
    linesStandHere();
    Check.end();
  }

  private static void row(Trellisworks x, int shelf, int... want) {
    List<Integer> got = new ArrayList<>();
    List<Integer> due = new ArrayList<>();
    for (int i = 0; i < x.size(shelf); i++) got.add(x.at(shelf, i));
    for (int z : want) due.add(z);
    Check.same("the shelf " + shelf, got, due);
  }

  private static void firstExample() {
    Trellisworks x = new Trellisworks();
    int code = x.shift(2, 7, 5, 0, 't', 15);
    x.put(0, 1); x.put(0, 0); x.put(0, 1);
    x.encode(code, 0, 1);
    row(x, 1, 1, 1, 1, 0, 0, 0, 1, 0, 1, 1);
    x.soften(1, 9, 1);
    int others = x.noise(1, 'f', 100, 0, 7);
    Check.same("the noise", others, 1);
    long metric = x.decode(code, 1, 2);
    Check.same("the metric", metric, 72L);
    row(x, 2, 1, 0, 1);
  }

  private static void codes() {
    Trellisworks x = new Trellisworks();
    int roots = x.roots(8, 3, 4);
    int twins = x.twins(5, 's', 2, 1);
    int graph = x.graph(3, 1);
    x.edge(graph, 0, 0); x.edge(graph, 0, 1); x.edge(graph, 0, 2);
    int splits = x.splits(3, 4, 8, true);
    int product = x.product();
    StringBuilder kinds = new StringBuilder();
    for (int code : new int[] {roots, twins, graph, splits, product}) kinds.append(x.kindOf(code));
    Check.same("kinds", kinds.toString(), "rtlph");
  }

  private static void channels() {
    Trellisworks x = new Trellisworks();
    x.put(0, 1); x.put(0, 1); x.put(0, 0);
    x.frame(2, 0, 1);
    Check.same("the frame", x.size(1), 39);
    int place = x.sync(1, 1);
    Check.same("the place", place, 0);
    int type = x.read(1, place, 2);
    Check.same("the type", type, 2);
    row(x, 2, 1, 1, 0);
  }

  private static void drops() {
    Trellisworks x = new Trellisworks();
    x.put(0, 65); x.put(0, 66); x.put(0, 67);
    x.source(0);
    for (int seed = 0; seed < 8; seed++) x.come(seed, false);
    int solved = x.solved();
    Check.same("solved", solved, 3);
    int piece = x.piece(1);
    Check.same("piece", piece, 66);
  }

  private static void again() {
    Trellisworks x = new Trellisworks();
    int code = x.shift(2, 7, 5, 0, 't', 15);
    x.put(0, 1); x.put(0, 0); x.put(0, 1);
    int request = x.request(code, 0);
    boolean isAccepted = x.send(request, 0, 'f', 300, 2);
    if (!isAccepted) isAccepted = x.send(request, 1, 'f', 100, 2);
    Check.is("accepted", isAccepted);
    Check.same("sendings", x.sendings(request), 2);
    Check.same("unseen", x.unseen(), 0);
    float share = x.acceptedShare();
    Check.same("the share", share, 0.5f);
  }

  private static void looks() {
    Trellisworks x = new Trellisworks();
    int code = x.shift(2, 7, 5, 0, 't', 15);
    int words = x.weight(code, 4, 5);
    Check.same("words", words, 4);
    boolean isAllowed = x.allows('h', 7, 4, 3);
    Check.is("a bound", isAllowed);
    int graph = x.graph(7, 3);
    for (int bit = 0; bit < 7; bit++) {
      for (int check = 0; check < 3; check++) if ((bit + 1 >> check & 1) == 1) x.edge(graph, check, bit);
    }
    int rings = x.ringsOfFour(graph);
    Check.same("rings", rings, 3);
    for (int i = 0; i < 7; i++) x.put(0, 9);
    int seed = x.compare(graph, 0, 'f', 100, 1);
    Check.same("compared", seed, 6);
  }

  /** Code of README.md, without its comments, is code of this test, in the same order. */
  private static void linesStandHere() throws Exception {
    List<String> here = Files.readAllLines(Path.of("src/test/java/ReadmeTest.java"));
    boolean isCode = false;
    int next = 0;
    int lines = 0;
    for (String line : Files.readAllLines(Path.of("README.md"))) {
      if (line.startsWith("```")) {
        isCode = line.equals("```java");
        continue;
      }
      String code = line.replaceAll("//.*", "").trim();
      if (!isCode || code.isEmpty()) continue;
      while (next < here.size() && !here.get(next).contains(code)) next++;
      Check.is("README.md's line stands in this test: " + code, next < here.size());
      lines++;
    }
    Check.is("README.md has examples", lines >= 20);
  }
}
