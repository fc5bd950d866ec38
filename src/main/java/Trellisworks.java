import java.util.NoSuchElementException;

/** A bench of codes that mend what noise broke; ../shared/DOC.md promises what each call does. */
public final class Trellisworks {
  private static final int SHELVES = 16;
  private static final int FARTHEST = 999;
  private static final int STRONGEST = 99;
  private static final int LAST_SEED = 99999;
  private static final int ALL_ODDS = 1000;
  private static final int BEHIND_BURST = 3;
  private static final int MOST_CODES = 10;
  private static final int MOST_REQUESTS = 8;
  private static final int MOST_SENDINGS = 6;
  private static final int VERSIONS = 4;
  private static final int MOST_ROUNDS = 20;
  private static final int MOST_DEPTH = 20;
  private static final int LONGEST_BOUND = 40;
  private static final int COMPARED_SEEDS = 10;
  private static final int TOP_RATE = 3;
  private static final int TYPES = 4;
  private static final int SYNC_WORD = 0xE5;
  private static final int SYNC_BITS = 8;
  private static final int HEADER_BITS = 8;
  private static final int ROW_START = SYNC_BITS + 3 * HEADER_BITS;
  private static final int LONGEST_FRAMED = 28;
  private static final int FRAME_SEED = 77;
  private static final int REST_BITS = 4;
  private static final int LONGEST_COUNTED = 12;
  /** What a decoder tells that gave up; no metric, cost or count comes near it. */
  private static final long GAVE_UP = -1000000000000L;

  private final Row[] shelves = new Row[SHELVES];
  private final Row draft = new Row();
  private final Code[] codes = new Code[MOST_CODES];
  private int codeCount = 0;
  private final long[] units = new long[LONGEST_COUNTED];
  private final Drops drops = new Drops();
  private final Request[] requests = new Request[MOST_REQUESTS];
  private int requestCount = 0;
  private int sendingCount = 0;
  private int acceptedCount = 0;
  private int unseenCount = 0;
  private int rateNow = 0;
  private int acceptedRun = 0;
  private int refusedRun = 0;

  public Trellisworks() {
    for (int i = 0; i < shelves.length; i++) shelves[i] = new Row();
  }

  // ---------------------------------------------------------------- shelves

  public int put(int shelf, int number) throws IndexOutOfBoundsException, IllegalArgumentException, IllegalStateException {
    Row row = shelfAt(shelf);
    if (isOutside(number, -FARTHEST, FARTHEST)) throw new IllegalArgumentException("number");
    if (row.count >= Row.MOST) throw new IllegalStateException("full");
    row.push(number);
    return row.count;
  }

  public int clear(int shelf) throws IndexOutOfBoundsException {
    Row row = shelfAt(shelf);
    int had = row.count;
    row.empty();
    return had;
  }

  public int size(int shelf) throws IndexOutOfBoundsException {
    return shelfAt(shelf).count;
  }

  public int at(int shelf, int index) throws IndexOutOfBoundsException {
    Row row = shelfAt(shelf);
    if (index < 0 || index >= row.count) throw new IndexOutOfBoundsException("index");
    return row.get(index);
  }

  public int soften(int from, int strength, int to) throws IndexOutOfBoundsException, IllegalArgumentException, UnsupportedOperationException {
    Row row = shelfAt(from);
    Row target = shelfAt(to);
    if (isOutside(strength, 1, STRONGEST)) throw new IllegalArgumentException("strength");
    if (!row.isBits()) throw new UnsupportedOperationException("no bits");
    draft.empty();
    for (int i = 0; i < row.count; i++) draft.push(row.get(i) == 0 ? strength : -strength);
    target.copy(draft);
    return target.count;
  }

  public int noise(int shelf, char kind, int odds, int hole, int seed) throws IndexOutOfBoundsException, IllegalArgumentException {
    Row row = shelfAt(shelf);
    if (!isNoise(kind, odds, seed) || isOutside(hole, -FARTHEST, FARTHEST)) throw new IllegalArgumentException("noise");
    return disturb(row, kind, odds, hole, seed);
  }

  public double mean(int shelf) throws IndexOutOfBoundsException, ArithmeticException {
    Row row = shelfAt(shelf);
    if (row.count < 1) throw new ArithmeticException("empty");
    int sum = 0;
    for (int i = 0; i < row.count; i++) sum += row.get(i);
    return (double) sum / (double) row.count;
  }

  private Row shelfAt(int shelf) throws IndexOutOfBoundsException {
    if (shelf < 0 || shelf >= shelves.length) throw new IndexOutOfBoundsException("shelf");
    return shelves[shelf];
  }

  private static boolean isOutside(int number, int least, int most) {
    return number < least || number > most;
  }

  private static boolean isNoise(char kind, int odds, int seed) {
    boolean isKind = kind == 'f' || kind == 'h' || kind == 'd' || kind == 'b';
    return isKind && !isOutside(odds, 0, ALL_ODDS) && isSeed(seed);
  }

  private static boolean isSeed(int seed) {
    return !isOutside(seed, 0, LAST_SEED);
  }

  // --------------------------------------------------------- draws and noise

  private static long drawFrom(long z) {
    return (z * 1103515245L + 12345L) % 2147483648L;
  }

  /** What the draw that made z tells. */
  private static int toldBy(long z) {
    return (int) (z / 65536L);
  }

  /** Lets noise come on a row and tells how many numbers are other ones than before. */
  private static int disturb(Row row, char kind, int odds, int hole, int seed) {
    boolean isOfBits = row.isBits();
    int changed = 0;
    int behind = 0;
    long z = seed;
    for (int i = 0; i < row.count; i++) {
      if (behind > 0) {
        behind--;
      } else {
        z = drawFrom(z);
        if (toldBy(z) % ALL_ODDS >= odds) continue;
        if (kind == 'b') behind = BEHIND_BURST;
      }
      int before = row.get(i);
      int after = disturbed(before, kind, hole, isOfBits);
      row.set(i, after);
      if (after != before) changed++;
    }
    return changed;
  }

  private static int disturbed(int number, char kind, int hole, boolean isOfBits) {
    if (kind == 'h') return hole;
    if (kind == 'd') return number / 2;
    return isOfBits ? 1 - number : -number;
  }

  // ------------------------------------------------------------ adding codes

  public int roots(int elements, int message, int checks) throws IllegalArgumentException, IllegalStateException {
    if (elements != 8 && elements != 16) throw new IllegalArgumentException("elements");
    if (isOutside(checks, 2, Roots.MOST_CHECKS) || isOutside(message, 1, elements - 1 - checks)) throw new IllegalArgumentException("length");
    needRoomForCode();
    return keep(new Roots(elements, message, checks));
  }

  public int shift(int memory, int first, int second, int third, char end, int holes) throws IndexOutOfBoundsException, IllegalArgumentException, IllegalStateException {
    Row row = shelfAt(holes);
    if (isOutside(memory, 1, Shift.MOST_MEMORY)) throw new IllegalArgumentException("memory");
    int greatest = (1 << (memory + 1)) - 1;
    if (isOutside(first, 1, greatest) || isOutside(second, 1, greatest) || isOutside(third, 0, greatest)) throw new IllegalArgumentException("generator");
    if (end != 't' && end != 'b') throw new IllegalArgumentException("end");
    if (!Shift.canBeHoles(row, third == 0 ? 2 : 3)) throw new IllegalArgumentException("holes");
    needRoomForCode();
    return keep(new Shift(memory, first, second, third, end == 'b', row));
  }

  public int twins(int length, char law, int a, int b) throws IllegalArgumentException, IllegalStateException {
    if (isOutside(length, Twins.SHORTEST, Twins.LONGEST)) throw new IllegalArgumentException("length");
    if (law != 's' && law != 'r' && law != 'd') throw new IllegalArgumentException("law");
    if (isOutside(a, 1, 99) || !isSeed(b)) throw new IllegalArgumentException("a or b");
    if (law == 's' && greatestDivisor(a, length) != 1) throw new IllegalArgumentException("a has a divisor in common");
    if (law == 'r' && a > length) throw new IllegalArgumentException("columns");
    needRoomForCode();
    return keep(new Twins(length, law, a, b));
  }

  public int graph(int bits, int checks) throws IllegalArgumentException, IllegalStateException {
    if (isOutside(bits, 2, Graph.MOST_BITS) || isOutside(checks, 1, Graph.MOST_CHECKS)) throw new IllegalArgumentException("size");
    needRoomForCode();
    return keep(new Graph(bits, checks));
  }

  public int edge(int code, int check, int bit) throws IndexOutOfBoundsException, UnsupportedOperationException, IllegalArgumentException {
    Graph graph = graphAt(code);
    if (graph == null) throw new UnsupportedOperationException("kind");
    if (isOutside(check, 0, graph.checks - 1) || isOutside(bit, 0, graph.bits - 1)) throw new IllegalArgumentException("edge");
    return graph.turnEdge(check, bit);
  }

  public int splits(int power, int open, int loss, boolean isChecked) throws IllegalArgumentException, IllegalStateException {
    if (isOutside(power, 1, Splits.MOST_POWER) || isOutside(loss, 1, 15)) throw new IllegalArgumentException("number");
    if (isOutside(open, isChecked ? 2 : 1, 1 << power)) throw new IllegalArgumentException("open");
    needRoomForCode();
    return keep(new Splits(power, open, loss, isChecked));
  }

  public int product() throws IllegalStateException {
    needRoomForCode();
    return keep(new Product());
  }

  public char kindOf(int code) throws IndexOutOfBoundsException {
    return codeAt(code).kind();
  }

  private void needRoomForCode() throws IllegalStateException {
    if (codeCount >= codes.length) throw new IllegalStateException("codes");
  }

  private int keep(Code code) {
    if (codeCount < codes.length) codes[codeCount++] = code;
    return codeCount - 1;
  }

  private Code codeAt(int code) throws IndexOutOfBoundsException {
    if (code < 0 || code >= codeCount || code >= codes.length) throw new IndexOutOfBoundsException("code");
    return codes[code];
  }

  /** The graph code of a number, or null if it is of another kind. */
  private Graph graphAt(int code) throws IndexOutOfBoundsException {
    return codeAt(code) instanceof Graph graph ? graph : null;
  }

  private Shift shiftAt(int code) throws IndexOutOfBoundsException {
    return codeAt(code) instanceof Shift shift ? shift : null;
  }

  private Splits splitsAt(int code) throws IndexOutOfBoundsException {
    return codeAt(code) instanceof Splits splits ? splits : null;
  }

  private Twins twinsAt(int code) throws IndexOutOfBoundsException {
    return codeAt(code) instanceof Twins twins ? twins : null;
  }

  private static int greatestDivisor(int a, int b) {
    int greatest = 1;
    for (int i = 2; i <= b; i++) if (a % i == 0 && b % i == 0) greatest = i;
    return greatest;
  }

  // ---------------------------------------------------- encoding and decoding

  public int encode(int code, int from, int to) throws IndexOutOfBoundsException, UnsupportedOperationException {
    Code used = codeAt(code);
    Row row = shelfAt(from);
    Row target = shelfAt(to);
    if (!used.isMessage(row)) throw new UnsupportedOperationException("no message");
    used.writeWord(row, draft);
    target.copy(draft);
    return target.count;
  }

  public long decode(int code, int from, int to) throws IndexOutOfBoundsException, IllegalArgumentException, UnsupportedOperationException, NoSuchElementException {
    Code used = codeAt(code);
    Row row = shelfAt(from);
    Row target = shelfAt(to);
    if (used.kind() == 't' || used.kind() == 'l') throw new IllegalArgumentException("kind");
    if (!used.fits(row)) throw new UnsupportedOperationException("row");
    return taken(used.mend(row, draft), target);
  }

  public long decodeList(int code, int from, int place, int to) throws IndexOutOfBoundsException, IllegalArgumentException, UnsupportedOperationException, NoSuchElementException {
    Shift used = shiftAt(code);
    Row row = shelfAt(from);
    Row target = shelfAt(to);
    if (used == null || isOutside(place, 0, Ranks.MOST - 1)) throw new IllegalArgumentException("kind or place");
    if (!used.fits(row)) throw new UnsupportedOperationException("row");
    return taken(used.mendAt(row, place, draft), target);
  }

  public int early(int code, int from, int depth) throws IndexOutOfBoundsException, IllegalArgumentException, UnsupportedOperationException {
    Shift used = shiftAt(code);
    Row row = shelfAt(from);
    if (used == null || used.isRing || isOutside(depth, 1, MOST_DEPTH)) throw new IllegalArgumentException("kind or depth");
    if (!used.fits(row)) throw new UnsupportedOperationException("row");
    return used.countUnlikeEarly(row, depth);
  }

  public int decodeTwins(int code, int from, int rounds, int to) throws IndexOutOfBoundsException, IllegalArgumentException, UnsupportedOperationException {
    Twins used = twinsAt(code);
    Row row = shelfAt(from);
    Row target = shelfAt(to);
    if (used == null || isOutside(rounds, 1, MOST_ROUNDS)) throw new IllegalArgumentException("kind or rounds");
    if (!used.fits(row)) throw new UnsupportedOperationException("row");
    int done = used.mendInRounds(row, rounds, draft);
    target.copy(draft);
    return done;
  }

  public int decodeGraph(int code, int from, int rounds, char law, boolean isDamped, int to) throws IndexOutOfBoundsException, IllegalArgumentException, UnsupportedOperationException, NoSuchElementException {
    Graph used = graphAt(code);
    Row row = shelfAt(from);
    Row target = shelfAt(to);
    if (used == null || isOutside(rounds, 1, MOST_ROUNDS)) throw new IllegalArgumentException("kind or rounds");
    if (law != 'f' && law != 'c') throw new IllegalArgumentException("law");
    if (!used.fits(row)) throw new UnsupportedOperationException("row");
    int done = used.settle(row, rounds, law == 'c', isDamped);
    if (done < 1) throw new NoSuchElementException("gave up");
    used.writeSettled(target);
    return done;
  }

  public long decodeSplits(int code, int from, int list, int to) throws IndexOutOfBoundsException, IllegalArgumentException, UnsupportedOperationException, NoSuchElementException {
    Splits used = splitsAt(code);
    Row row = shelfAt(from);
    Row target = shelfAt(to);
    if (used == null || isOutside(list, 1, Ranks.MOST)) throw new IllegalArgumentException("kind or list");
    if (!used.fits(row)) throw new UnsupportedOperationException("row");
    return taken(used.mendByList(row, list, draft), target);
  }

  /** Puts the draft on a shelf, unless the decoder that wrote it gave up. */
  private long taken(long told, Row target) throws NoSuchElementException {
    if (told == GAVE_UP) throw new NoSuchElementException("gave up");
    target.copy(draft);
    return told;
  }

  public int compare(int code, int shelf, char kind, int odds, int seed) throws IndexOutOfBoundsException, IllegalArgumentException, UnsupportedOperationException {
    Code used = codeAt(code);
    Row row = shelfAt(shelf);
    if (used.kind() != 'l' && used.kind() != 'p') throw new IllegalArgumentException("kind of code");
    if (!isNoise(kind, odds, seed)) throw new IllegalArgumentException("noise");
    if (!used.fits(row)) throw new UnsupportedOperationException("row");
    for (int i = 0; i < COMPARED_SEEDS; i++) {
      draft.copy(row);
      disturb(draft, kind, odds, 0, seed + i);
      if (used.tellsUnlike(draft)) return seed + i;
    }
    return -1;
  }

  // ------------------------------------------------- what codes are made of

  public boolean isOpen(int code, int place) throws IndexOutOfBoundsException, UnsupportedOperationException, IllegalArgumentException {
    Splits used = splitsAt(code);
    if (used == null) throw new UnsupportedOperationException("kind");
    if (isOutside(place, 0, used.size - 1)) throw new IllegalArgumentException("place");
    return used.isOpenAt(place);
  }

  public int ringsOfFour(int code) throws IndexOutOfBoundsException, UnsupportedOperationException {
    Graph used = graphAt(code);
    if (used == null) throw new UnsupportedOperationException("kind");
    return used.countRings();
  }

  public int traps(int code, int bits, int odd) throws IndexOutOfBoundsException, UnsupportedOperationException, IllegalArgumentException {
    Graph used = graphAt(code);
    if (used == null) throw new UnsupportedOperationException("kind");
    if (isOutside(bits, 1, Graph.MOST_CHOSEN) || isOutside(odd, 0, Graph.MOST_CHECKS)) throw new IllegalArgumentException("number");
    return used.countTraps(bits, odd);
  }

  public int weight(int code, int message, int ones) throws IndexOutOfBoundsException, UnsupportedOperationException, IllegalArgumentException {
    Code used = codeAt(code);
    if (!used.isCounted()) throw new UnsupportedOperationException("kind");
    if (!used.canCount(message)) throw new IllegalArgumentException("length");
    return countWords(used.writeUnits(message, units), ones);
  }

  /** Goes through all words, each one unit away from the one before. */
  private int countWords(int bits, int ones) {
    long word = 0;
    int found = ones == 0 ? 1 : 0;
    for (int i = 1; i < 1 << bits; i++) {
      int unit = Integer.bitCount((i & -i) - 1);
      if (unit < units.length) word ^= units[unit];
      if (Long.bitCount(word) == ones) found++;
    }
    return found;
  }

  public boolean allows(char bound, int length, int message, int distance) throws IllegalArgumentException {
    if (bound != 's' && bound != 'h' && bound != 'g') throw new IllegalArgumentException("bound");
    if (isOutside(length, 1, LONGEST_BOUND)) throw new IllegalArgumentException("length");
    if (isOutside(message, 1, length) || isOutside(distance, 1, length)) throw new IllegalArgumentException("number");
    if (bound == 's') return distance <= length - message + 1;
    if (bound == 'h') return fitsBalls(length, message, distance);
    return fitsSteps(length, message, distance);
  }

  private static boolean fitsBalls(int length, int message, int distance) {
    long ways = 1;
    long sum = 1;
    for (int i = 1; i <= (distance - 1) / 2; i++) {
      ways = ways * (length - i + 1) / i;
      sum += ways;
    }
    // the product itself may be beyond a long, so that both sides are taken without 2 to the power of the message
    return sum <= 1L << (length - message);
  }

  private static boolean fitsSteps(int length, int message, int distance) {
    long sum = 0;
    for (int i = 0; i < message; i++) {
      long power = 1L << i;
      sum += (distance + power - 1) / power;
    }
    return length >= sum;
  }

  // ------------------------------------------------------------------- drops

  public int source(int shelf) throws IndexOutOfBoundsException, UnsupportedOperationException {
    Row row = shelfAt(shelf);
    if (isOutside(row.count, 1, Drops.MOST_PIECES) || !row.isWithin(0, 255)) throw new UnsupportedOperationException("pieces");
    drops.begin(row);
    return row.count;
  }

  public int drop(int seed) throws IllegalArgumentException, NoSuchElementException {
    if (!isSeed(seed)) throw new IllegalArgumentException("seed");
    needSource();
    return drops.valueOf(drops.drawPieces(seed));
  }

  public int come(int seed, boolean isFlipped) throws IllegalArgumentException, NoSuchElementException, IllegalStateException {
    if (!isSeed(seed)) throw new IllegalArgumentException("seed");
    needSource();
    if (drops.came >= Drops.MOST_DROPS) throw new IllegalStateException("drops");
    drops.take(drops.drawPieces(seed), isFlipped);
    return drops.came;
  }

  public int peeled() throws NoSuchElementException {
    needSource();
    return Integer.bitCount(drops.peel());
  }

  public int solved() throws NoSuchElementException {
    needSource();
    drops.reduce();
    return drops.isAgainst ? -1 : Integer.bitCount(drops.told());
  }

  public int piece(int piece) throws IndexOutOfBoundsException, NoSuchElementException {
    if (piece < 0 || piece >= drops.count) throw new IndexOutOfBoundsException("piece");
    drops.reduce();
    if (drops.isAgainst || (drops.told() >> piece & 1) == 0) throw new NoSuchElementException("not told");
    return drops.toldPiece(piece);
  }

  private void needSource() throws NoSuchElementException {
    if (drops.count < 1) throw new NoSuchElementException("no source");
  }

  // ------------------------------------------------------------------ frames

  public int frame(int type, int from, int to) throws IndexOutOfBoundsException, IllegalArgumentException, UnsupportedOperationException {
    Row row = shelfAt(from);
    Row target = shelfAt(to);
    if (isOutside(type, 0, TYPES - 1)) throw new IllegalArgumentException("type");
    if (!row.isBits() || isOutside(row.count, 1, LONGEST_FRAMED)) throw new UnsupportedOperationException("row");
    draft.empty();
    draft.pushBits(SYNC_WORD, SYNC_BITS);
    int header = type << 6 | row.count;
    for (int i = HEADER_BITS - 1; i >= 0; i--) draft.pushBits((header >> i & 1) * 7, 3);
    pushMasked(row, 0, row.count);
    draft.pushBits(restOf(row.bitsAt(0, row.count), row.count), REST_BITS);
    target.copy(draft);
    return target.count;
  }

  public int sync(int shelf, int most) throws IndexOutOfBoundsException, IllegalArgumentException, UnsupportedOperationException, NoSuchElementException {
    Row row = shelfAt(shelf);
    if (isOutside(most, 0, 3)) throw new IllegalArgumentException("most");
    if (!row.isBits()) throw new UnsupportedOperationException("no bits");
    for (int i = 0; i + SYNC_BITS <= row.count; i++) {
      if (Integer.bitCount(row.bitsAt(i, SYNC_BITS) ^ SYNC_WORD) <= most) return i;
    }
    throw new NoSuchElementException("no sync word");
  }

  public int read(int from, int place, int to) throws IndexOutOfBoundsException, UnsupportedOperationException, NoSuchElementException {
    Row row = shelfAt(from);
    Row target = shelfAt(to);
    if (place < 0 || place >= row.count) throw new IndexOutOfBoundsException("place");
    if (!row.isBits() || row.count - place < ROW_START) throw new UnsupportedOperationException("header");
    int header = headerAt(row, place + SYNC_BITS);
    int length = header & 63;
    int start = place + ROW_START;
    if (row.count - start < length + REST_BITS) throw new UnsupportedOperationException("too short");
    if (isOutside(length, 1, LONGEST_FRAMED)) throw new NoSuchElementException("length");
    draft.empty();
    pushMasked(row, start, length);
    int rest = row.bitsAt(start + length, REST_BITS);
    if (restOf(draft.bitsAt(0, length), length) != rest) throw new NoSuchElementException("rest");
    target.copy(draft);
    return header >> 6;
  }

  /** Puts some bits of a row behind the draft, each one added to a draw; done twice, they are as they were. */
  private void pushMasked(Row row, int start, int many) {
    long z = FRAME_SEED;
    for (int i = 0; i < many; i++) {
      z = drawFrom(z);
      draft.push((row.get(start + i) + toldBy(z)) % 2);
    }
  }

  private static int headerAt(Row row, int start) {
    int header = 0;
    for (int i = 0; i < HEADER_BITS; i++) {
      int ones = Integer.bitCount(row.bitsAt(start + 3 * i, 3));
      header = header << 1 | (ones >= 2 ? 1 : 0);
    }
    return header;
  }

  /** The rest of 4 bits of a row of bits, whose first one is the highest. */
  private static int restOf(int bits, int length) {
    int register = 0;
    for (int i = length - 1; i >= 0; i--) {
      int sum = register >> 3 ^ bits >> i & 1;
      register = register << 1 & 15;
      if (sum == 1) register ^= 3;
    }
    return register;
  }

  // ------------------------------------------------------------ asking again

  public int request(int code, int shelf) throws IndexOutOfBoundsException, UnsupportedOperationException, IllegalStateException {
    Shift used = shiftAt(code);
    Row row = shelfAt(shelf);
    if (used == null) throw new UnsupportedOperationException("kind");
    if (!used.isMessage(row) || row.count > Shift.LONGEST - REST_BITS) throw new UnsupportedOperationException("message");
    if (used.wordLength(row.count + REST_BITS) > Row.MOST) throw new UnsupportedOperationException("word");
    if (requestCount >= requests.length) throw new IllegalStateException("requests");
    requests[requestCount++] = new Request(used, row.bitsAt(0, row.count), row.count);
    return requestCount - 1;
  }

  public boolean send(int request, int version, char kind, int odds, int seed) throws IndexOutOfBoundsException, IllegalArgumentException, UnsupportedOperationException, IllegalStateException {
    Request asked = requestAt(request);
    if (isOutside(version, 0, VERSIONS - 1) || !isNoise(kind, odds, seed)) throw new IllegalArgumentException("version or noise");
    if (asked.isAccepted) throw new UnsupportedOperationException("accepted");
    if (asked.sent >= MOST_SENDINGS) throw new IllegalStateException("sendings");
    asked.writeVersion(version, draft);
    disturb(draft, kind, odds, 0, seed);
    asked.hear(version, draft);
    sendingCount++;
    if (asked.isAccepted) acceptedCount++;
    if (asked.isAccepted && asked.heard != asked.message) unseenCount++;
    if (asked.isAccepted) followAccepted();
    else followRefused();
    return asked.isAccepted;
  }

  private void followAccepted() {
    refusedRun = 0;
    acceptedRun++;
    if (acceptedRun < 3) return;
    acceptedRun = 0;
    if (rateNow < TOP_RATE) rateNow++;
  }

  private void followRefused() {
    acceptedRun = 0;
    refusedRun++;
    if (refusedRun < 2) return;
    refusedRun = 0;
    if (rateNow > 0) rateNow--;
  }

  public int sendings(int request) throws IndexOutOfBoundsException {
    return requestAt(request).sent;
  }

  private Request requestAt(int request) throws IndexOutOfBoundsException {
    if (request < 0 || request >= requestCount || request >= requests.length) throw new IndexOutOfBoundsException("request");
    return requests[request];
  }

  public int unseen() {
    return unseenCount;
  }

  public int rate() {
    return rateNow;
  }

  public float acceptedShare() throws ArithmeticException {
    if (sendingCount < 1) throw new ArithmeticException("no sendings");
    return (float) acceptedCount / (float) sendingCount;
  }

  public boolean isSound() {
    for (int i = 0; i < requestCount && i < requests.length; i++) if (!requests[i].isSettled()) return false;
    for (int i = 0; i < codeCount && i < codes.length; i++) if (!codes[i].isSettled()) return false;
    return drops.agree();
  }

  // ---------------------------------------------------------------- one row

  /** A row of numbers; what lies beyond it is read as 0 and not written. */
  private static final class Row {
    static final int MOST = 64;
    private final int[] numbers = new int[MOST];
    private int count = 0;

    int get(int index) {
      return index >= 0 && index < count && index < numbers.length ? numbers[index] : 0;
    }

    void set(int index, int number) {
      if (index >= 0 && index < count && index < numbers.length) numbers[index] = number;
    }

    void push(int number) {
      if (count >= 0 && count < numbers.length) numbers[count++] = number;
    }

    void empty() {
      count = 0;
    }

    void copy(Row other) {
      copyFirst(other, other.count);
    }

    void copyFirst(Row other, int many) {
      for (int i = 0; i < many && i < numbers.length; i++) numbers[i] = other.get(i);
      count = Math.max(0, Math.min(many, numbers.length));
    }

    boolean isBits() {
      return isWithin(0, 1);
    }

    boolean isWithin(int least, int most) {
      for (int i = 0; i < count; i++) if (isOutside(get(i), least, most)) return false;
      return true;
    }

    boolean isBitsOf(int many) {
      return count == many && isBits();
    }

    /** Some of a row of bits, at most 28, as a number whose highest bit is the first one. */
    int bitsAt(int first, int many) {
      int bits = 0;
      for (int i = 0; i < many; i++) bits = bits << 1 | get(first + i);
      return bits;
    }

    void pushBits(int bits, int many) {
      for (int i = many - 1; i >= 0; i--) push(bits >> i & 1);
    }
  }

  // ----------------------------------------------------------- the best four

  /** The first ones of rows of bits, by falling metrics, then by their bits as numbers. */
  private static final class Ranks {
    static final int MOST = 4;
    private final int[] metrics = new int[MOST];
    private final int[] bits = new int[MOST];
    private int count = 0;
    private int room = MOST;

    void begin(int many) {
      count = 0;
      room = many < MOST ? many : MOST;
    }

    int metricAt(int place) {
      return place >= 0 && place < metrics.length ? metrics[place] : 0;
    }

    int bitsAt(int place) {
      return place >= 0 && place < bits.length ? bits[place] : 0;
    }

    void offer(int metric, int row) {
      int place = count;
      while (place > 0 && isAhead(metric, row, place - 1)) place--;
      if (place < 0 || place >= room || room > MOST) return;
      if (count < room) count++;
      for (int i = count - 1; i > place; i--) {
        metrics[i] = metrics[i - 1];
        bits[i] = bits[i - 1];
      }
      metrics[place] = metric;
      bits[place] = row;
    }

    void offerAll(Ranks others) {
      for (int i = 0; i < others.count; i++) offer(others.metricAt(i), others.bitsAt(i));
    }

    private boolean isAhead(int metric, int row, int place) {
      if (place < 0 || place >= MOST) return false;
      return metric > metrics[place] || metric == metrics[place] && row < bits[place];
    }
  }

  // ------------------------------------------------------------- every code

  /** A code of any kind; its own rows are made with it, so that calls make none. */
  private abstract static class Code {
    abstract char kind();

    abstract boolean isMessage(Row row);

    /** Whether a row can be decoded by this code. */
    abstract boolean fits(Row row);

    /** Writes the word of a row that is a message. */
    abstract void writeWord(Row message, Row word);

    /** Writes the message of a row that fits, and tells what decoding tells, or GAVE_UP. */
    long mend(Row row, Row message) {
      return GAVE_UP;
    }

    /** Whether the two ways to decode a row that fits tell unlike words. */
    boolean tellsUnlike(Row row) {
      return false;
    }

    /** Whether its words can be counted by their ones. */
    boolean isCounted() {
      return false;
    }

    boolean canCount(int length) {
      return true;
    }

    /** Writes the words of messages with a single 1, and tells how many these are: sums of words are words. */
    int writeUnits(int length, long[] units) {
      return 0;
    }

    boolean isSettled() {
      return true;
    }
  }

  // ------------------------------------------------------------------- roots

  private static final class Roots extends Code {
    static final int MOST_CHECKS = 6;
    private static final int MOST_ERRORS = 3;
    private final int field;
    private final int message;
    private final int checks;
    private final int length;
    /** The powers of a, twice around, so that two logarithms can be added. */
    private final int[] powers = new int[30];
    private final int[] logs = new int[16];
    private final Row filled = new Row();
    private final Row whole = new Row();
    /** The polynomial of the row at the powers of a. */
    private final int[] sums = new int[MOST_CHECKS];
    /** The sums without what holes and 0, 1 and more supposed errors can tell. */
    private final int[][] struck = new int[MOST_ERRORS + 1][MOST_CHECKS];
    private final int[] left = new int[MOST_CHECKS];
    /** The places that may be wrong: holes, then supposed errors. */
    private final int[] doubts = new int[MOST_CHECKS];
    private int holeCount = 0;
    private int holeSet = 0;

    Roots(int field, int message, int checks) {
      this.field = field;
      this.message = message;
      this.checks = checks;
      this.length = message + checks;
      int x = 1;
      for (int i = 0; i < powers.length; i++) {
        powers[i] = x;
        if (i < field - 1 && x < logs.length) logs[x] = i;
        x *= 2;
        if (x >= field) x ^= field == 8 ? 11 : 19;
      }
    }

    char kind() {
      return 'r';
    }

    boolean isMessage(Row row) {
      return row.count == message && row.isWithin(0, field - 1);
    }

    boolean fits(Row row) {
      return row.count == length && row.isWithin(-1, field - 1);
    }

    /** The checks of a word are holes that are always mended. */
    void writeWord(Row from, Row word) {
      filled.copy(from);
      for (int i = 0; i < checks; i++) filled.push(-1);
      solve(filled, word);
    }

    long mend(Row row, Row to) {
      int errors = solve(row, whole);
      if (errors < 0) return GAVE_UP;
      to.copyFirst(whole, message);
      return errors;
    }

    /** Writes the word that is near enough, and tells its errors, or -1 if there is none. */
    private int solve(Row row, Row word) {
      noteHoles(row);
      if (holeCount > checks) return -1;
      writeSums(row);
      copySums(struck[0]);
      for (int i = 0; i < holeCount; i++) strike(struck[0], checks - i, doubtAt(i), struck[0]);
      for (int errors = 0; 2 * errors + holeCount <= checks; errors++) {
        if (!isExplained(0, errors, 0)) continue;
        writeMended(row, holeCount + errors, word);
        return errors;
      }
      return -1;
    }

    private void noteHoles(Row row) {
      holeCount = 0;
      holeSet = 0;
      for (int i = 0; i < row.count; i++) {
        if (row.get(i) >= 0) continue;
        setDoubt(holeCount, i);
        holeSet |= 1 << i;
        holeCount++;
      }
    }

    private void writeSums(Row row) {
      for (int j = 0; j < sums.length && j + 1 < powers.length; j++) {
        int sum = 0;
        for (int i = 0; i < length; i++) sum = times(sum, powers[j + 1]) ^ Math.max(row.get(i), 0);
        sums[j] = sum;
      }
    }

    private void copySums(int[] to) {
      for (int i = 0; i < to.length && i < sums.length; i++) to[i] = sums[i];
    }

    /** Takes out of so many sums what an element at a place puts in; one sum less is left. */
    private void strike(int[] from, int many, int place, int[] to) {
      int x = locator(place);
      for (int i = 0; i + 1 < many && i + 1 < from.length && i < to.length; i++) to[i] = from[i + 1] ^ times(x, from[i]);
    }

    /** Whether errors at so many more places, from one on, leave nothing of the sums. */
    private boolean isExplained(int depth, int errors, int first) {
      int many = checks - holeCount - depth;
      if (depth < 0 || depth >= struck.length) return false;
      if (errors == 0) return isNothing(struck[depth], many);
      if (depth + 1 >= struck.length) return false;
      for (int place = first; place < length; place++) {
        if ((holeSet >> place & 1) == 1) continue;
        setDoubt(holeCount + depth, place);
        strike(struck[depth], many, place, struck[depth + 1]);
        if (isExplained(depth + 1, errors - 1, place + 1)) return true;
      }
      return false;
    }

    private static boolean isNothing(int[] row, int many) {
      for (int i = 0; i < many && i < row.length; i++) if (row[i] != 0) return false;
      return true;
    }

    private void writeMended(Row row, int many, Row word) {
      word.copyFirst(row, length);
      for (int i = 0; i < many; i++) {
        int place = doubtAt(i);
        word.set(place, Math.max(row.get(place), 0) ^ missingAt(i, many));
      }
    }

    /** What is missing at one of so many doubts: all others are struck out of the sums. */
    private int missingAt(int which, int many) {
      int x = locator(doubtAt(which));
      int scale = x;
      int rest = checks;
      copySums(left);
      for (int i = 0; i < many; i++) {
        if (i == which) continue;
        strike(left, rest, doubtAt(i), left);
        rest--;
        scale = times(scale, x ^ locator(doubtAt(i)));
      }
      return over(left[0], scale);
    }

    private int doubtAt(int which) {
      return which >= 0 && which < doubts.length ? doubts[which] : 0;
    }

    private void setDoubt(int which, int place) {
      if (which >= 0 && which < doubts.length) doubts[which] = place;
    }

    /** The power of a that a place has in the first sum. */
    private int locator(int place) {
      int exponent = length - 1 - place;
      return exponent >= 0 && exponent < powers.length ? powers[exponent] : 0;
    }

    private int times(int x, int y) {
      if (x < 1 || y < 1 || x >= logs.length || y >= logs.length) return 0;
      int sum = logs[x] + logs[y];
      return sum >= 0 && sum < powers.length ? powers[sum] : 0;
    }

    private int over(int x, int y) {
      if (x < 1 || y < 1 || x >= logs.length || y >= logs.length) return 0;
      int rest = logs[x] + field - 1 - logs[y];
      return rest >= 0 && rest < powers.length ? powers[rest] : 0;
    }
  }

  // ------------------------------------------------------------------- shift

  private static final class Shift extends Code {
    static final int MOST_MEMORY = 4;
    static final int LONGEST = 16;
    private static final int MOST_HOLES = 12;
    private static final int MOST_STEPS = LONGEST + MOST_MEMORY;
    private static final int MOST_OUTPUTS = 3 * MOST_STEPS;
    private static final int STATES = 16;
    private static final int REGISTERS = 32;
    private final int memory;
    private final int[] generators = new int[3];
    private final int perStep;
    private final boolean isRing;
    private final Row holes = new Row();
    /** How long the words of messages are, by the lengths of these. */
    private final int[] wordLengths = new int[LONGEST + 1];
    /** A number for each output of a message, 0 where nothing is known. */
    private final int[] known = new int[MOST_OUTPUTS];
    /** What a step adds to the metric, for each content of the register. */
    private final int[][] gains = new int[MOST_STEPS][REGISTERS];
    /** The best rows of inputs so far that end in a state. */
    private Ranks[] here = new Ranks[STATES];
    private Ranks[] next = new Ranks[STATES];
    private final Ranks best = new Ranks();

    Shift(int memory, int first, int second, int third, boolean isRing, Row holes) {
      this.memory = memory;
      this.generators[0] = first;
      this.generators[1] = second;
      this.generators[2] = third;
      this.perStep = third == 0 ? 2 : 3;
      this.isRing = isRing;
      this.holes.copy(holes);
      for (int i = 0; i < STATES; i++) {
        here[i] = new Ranks();
        next[i] = new Ranks();
      }
      for (int i = 0; i < wordLengths.length; i++) wordLengths[i] = countKept(steps(i) * perStep);
    }

    static boolean canBeHoles(Row row, int perStep) {
      if (row.count == 0) return true;
      if (perStep < 1 || row.count > MOST_HOLES || row.count % perStep != 0 || !row.isBits()) return false;
      for (int i = 0; i < row.count; i++) if (row.get(i) == 1) return true;
      return false;
    }

    char kind() {
      return 'c';
    }

    boolean isMessage(Row row) {
      return row.isBits() && isLength(row.count);
    }

    boolean fits(Row row) {
      return lengthFor(row.count) > 0;
    }

    private boolean isLength(int length) {
      return length >= (isRing ? memory : 1) && length <= LONGEST;
    }

    private int steps(int length) {
      return isRing ? length : length + memory;
    }

    /** Whether an output is kept in a version, 0 for words. */
    private boolean isKept(int output, int version) {
      return holes.count < 1 || holes.get((output + version * perStep) % holes.count) == 1;
    }

    private int countKept(int outputs) {
      int kept = 0;
      for (int i = 0; i < outputs; i++) if (isKept(i, 0)) kept++;
      return kept;
    }

    int wordLength(int length) {
      return length >= 0 && length < wordLengths.length ? wordLengths[length] : 0;
    }

    /** The least length of messages whose words are so long, 0 if there is none. */
    private int lengthFor(int count) {
      for (int i = 1; i <= LONGEST; i++) if (isLength(i) && wordLength(i) == count) return i;
      return 0;
    }

    /** The state that a register has behind a message, and, for a ring, ahead of it. */
    private int stateBehind(int bits) {
      int state = 0;
      for (int i = memory - 1; i >= 0; i--) state = state >> 1 | (bits >> i & 1) << (memory - 1);
      return state;
    }

    /** All outputs of a message, the first one as the lowest bit. */
    private long outputsOf(int bits, int length) {
      long outputs = 0;
      int state = isRing ? stateBehind(bits) : 0;
      for (int step = 0; step < steps(length); step++) {
        int input = step < length ? bits >> (length - 1 - step) & 1 : 0;
        int register = input << memory | state;
        for (int i = 0; i < perStep; i++) outputs |= (long) outputOf(i, register) << (step * perStep + i);
        state = register >> 1;
      }
      return outputs;
    }

    private int outputOf(int generator, int register) {
      return generator >= 0 && generator < generators.length ? Integer.bitCount(generators[generator] & register) & 1 : 0;
    }

    void writeWord(Row message, Row word) {
      long outputs = outputsOf(message.bitsAt(0, message.count), message.count);
      writeKept(outputs, message.count, 0, 0, 1, word);
    }

    /** Writes the kept outputs of a version with a number for 0 and one for 1. */
    void writeKept(long outputs, int length, int version, int zero, int one, Row row) {
      row.empty();
      for (int i = 0; i < steps(length) * perStep; i++) {
        if (isKept(i, version)) row.push((outputs >> i & 1) == 0 ? zero : one);
      }
    }

    boolean isCounted() {
      return true;
    }

    boolean canCount(int length) {
      return isLength(length) && length <= LONGEST_COUNTED;
    }

    int writeUnits(int length, long[] units) {
      long kept = 0;
      for (int i = 0; i < steps(length) * perStep; i++) if (isKept(i, 0)) kept |= 1L << i;
      for (int i = 0; i < length && i < units.length; i++) units[i] = outputsOf(1 << i, length) & kept;
      return length;
    }

    long mend(Row row, Row message) {
      return mendAt(row, 0, message);
    }

    long mendAt(Row row, int place, Row message) {
      int length = lengthFor(row.count);
      hearRow(row, length);
      rank(length, place + 1);
      if (place >= best.count) return GAVE_UP;
      message.empty();
      message.pushBits(messageAt(place), length);
      return best.metricAt(place);
    }

    private void hearRow(Row row, int length) {
      int heard = 0;
      for (int i = 0; i < known.length; i++) {
        boolean isHeard = i < steps(length) * perStep && isKept(i, 0);
        known[i] = isHeard ? row.get(heard++) : 0;
      }
    }

    /** The best message of a length by what is known of its outputs. */
    int bestBy(int[] numbers, int length) {
      for (int i = 0; i < known.length; i++) known[i] = i < numbers.length ? numbers[i] : 0;
      rank(length, 1);
      return messageAt(0);
    }

    private int messageAt(int place) {
      return isRing ? best.bitsAt(place) : best.bitsAt(place) >> memory;
    }

    /** Finds the first messages by what is known; a ring is walked from each of its states. */
    private void rank(int length, int many) {
      weigh(steps(length));
      best.begin(many);
      int starts = isRing ? 1 << memory : 1;
      for (int start = 0; start < starts && start < here.length; start++) {
        begin(start, many);
        for (int step = 0; step < steps(length); step++) advance(step, step < length, many);
        best.offerAll(here[start]);
      }
    }

    private void weigh(int steps) {
      for (int step = 0; step < steps && step < gains.length; step++) {
        for (int register = 0; register < 2 << memory && register < REGISTERS; register++) {
          gains[step][register] = gainOf(step, register);
        }
      }
    }

    private int gainOf(int step, int register) {
      int gain = 0;
      for (int i = 0; i < perStep; i++) {
        int output = step * perStep + i;
        int number = output >= 0 && output < known.length ? known[output] : 0;
        gain += outputOf(i, register) == 0 ? number : -number;
      }
      return gain;
    }

    private void begin(int start, int many) {
      for (int i = 0; i < here.length; i++) here[i].begin(many);
      if (start >= 0 && start < here.length) here[start].offer(0, 0);
    }

    /** Does a step with all inputs, or with 0 alone. */
    private void advance(int step, boolean isFree, int many) {
      int registers = isFree ? 2 << memory : 1 << memory;
      if (step < 0 || step >= gains.length) return;
      for (int i = 0; i < next.length; i++) next[i].begin(many);
      for (int register = 0; register < registers && register < REGISTERS; register++) {
        int state = register & (1 << memory) - 1;
        int behind = register >> 1;
        if (state < 0 || state >= here.length || behind >= next.length) continue;
        Ranks from = here[state];
        Ranks to = next[behind];
        int gain = gains[step][register];
        int input = register >> memory;
        for (int i = 0; i < from.count; i++) to.offer(from.metricAt(i) + gain, from.bitsAt(i) << 1 | input);
      }
      Ranks[] done = here;
      here = next;
      next = done;
    }

    /** In how many bits the answers given so many steps late differ from the best message. */
    int countUnlikeEarly(Row row, int depth) {
      int length = lengthFor(row.count);
      int steps = steps(length);
      hearRow(row, length);
      rank(length, 1);
      int inputs = best.bitsAt(0);
      int unlike = 0;
      begin(0, 1);
      for (int step = 0; step < steps; step++) {
        advance(step, step < length, 1);
        int told = step - depth;
        if (told < 0 || told >= length) continue;
        if ((firstOfAll() >> depth & 1) != (inputs >> (steps - 1 - told) & 1)) unlike++;
      }
      return unlike;
    }

    private int firstOfAll() {
      best.begin(1);
      for (int i = 0; i < here.length; i++) best.offerAll(here[i]);
      return best.bitsAt(0);
    }
  }

  // ------------------------------------------------------------------- twins

  private static final class Twins extends Code {
    static final int SHORTEST = 4;
    static final int LONGEST = 20;
    private static final int STATES = 4;
    private static final int FARTHEST_TOLD = 99;
    private static final int UNREACHED = -100000000;
    private final int length;
    private final int[] order = new int[LONGEST];
    /** For both registers, by their steps: numbers of bits with what the other told, of checks, and both results. */
    private final int[] bitNumbers = new int[LONGEST];
    private final int[] checkNumbers = new int[LONGEST];
    private final int[] results = new int[LONGEST];
    private final int[] told = new int[LONGEST];
    private final int[][] ahead = new int[LONGEST + 1][STATES];
    private final int[][] behind = new int[LONGEST + 1][STATES];

    Twins(int length, char law, int a, int b) {
      this.length = length;
      if (law == 's') orderBySteps(a, b);
      else if (law == 'r') orderByColumns(a);
      else orderByDraws(b);
    }

    private void orderBySteps(int a, int b) {
      if (length < 1) return;
      for (int i = 0; i < length && i < order.length; i++) order[i] = (a * i + b) % length;
    }

    private void orderByColumns(int columns) {
      int done = 0;
      if (columns < 1) return;
      for (int column = 0; column < columns; column++) {
        for (int place = column; place < length && done < order.length; place += columns) order[done++] = place;
      }
    }

    private void orderByDraws(int seed) {
      long z = seed;
      for (int i = 0; i < order.length; i++) order[i] = i;
      for (int i = length - 1; i > 0 && i < order.length; i--) {
        z = drawFrom(z);
        int other = toldBy(z) % (i + 1);
        if (other < 0 || other >= order.length) continue;
        int place = order[i];
        order[i] = order[other];
        order[other] = place;
      }
    }

    char kind() {
      return 't';
    }

    boolean isMessage(Row row) {
      return row.isBitsOf(length);
    }

    boolean fits(Row row) {
      return row.count == 3 * length;
    }

    private int placeAt(int step) {
      return step >= 0 && step < order.length ? order[step] : 0;
    }

    /** A state has the newer bit above the elder one; w is what comes in for an input. */
    private static int comingIn(int state, int input) {
      return input ^ state >> 1 ^ state & 1;
    }

    /** The sum of w and the elder one, which is in w already and so goes out. */
    private static int checkOf(int state, int input) {
      return input ^ state >> 1;
    }

    private static int stateBehind(int state, int input) {
      return comingIn(state, input) << 1 | state >> 1;
    }

    void writeWord(Row message, Row word) {
      int first = 0;
      int second = 0;
      word.empty();
      for (int i = 0; i < length; i++) {
        int bit = message.get(i);
        int turned = message.get(placeAt(i));
        word.push(bit);
        word.push(checkOf(first, bit));
        word.push(checkOf(second, turned));
        first = stateBehind(first, bit);
        second = stateBehind(second, turned);
      }
    }

    /** Writes the message that so many rounds find, and tells how many were done. */
    int mendInRounds(Row row, int rounds, Row message) {
      for (int i = 0; i < told.length; i++) told[i] = 0;
      message.empty();
      for (int i = 0; i < length; i++) message.push(0);
      for (int round = 1; round <= rounds; round++) {
        runRegister(row, false);
        int first = onesFound(false);
        runRegister(row, true);
        int second = onesFound(true);
        for (int i = 0; i < length; i++) message.set(i, second >> i & 1);
        if (first == second) return round;
      }
      return rounds;
    }

    /** The places whose result is below 0, as a set. */
    private int onesFound(boolean isSecond) {
      int ones = 0;
      for (int i = 0; i < length && i < results.length; i++) {
        if (results[i] < 0) ones |= 1 << (isSecond ? placeAt(i) : i);
      }
      return ones;
    }

    /** One register by what the other one told last; what it tells takes the place of that. */
    private void runRegister(Row row, boolean isSecond) {
      for (int i = 0; i < length && i < bitNumbers.length && i < checkNumbers.length; i++) {
        int place = isSecond ? placeAt(i) : i;
        bitNumbers[i] = row.get(3 * place) + toldAt(place);
        checkNumbers[i] = row.get(3 * i + (isSecond ? 2 : 1));
      }
      sumAhead();
      sumBehind();
      for (int i = 0; i < length && i < results.length && i < bitNumbers.length; i++) {
        int place = isSecond ? placeAt(i) : i;
        results[i] = (greatestAt(i, 0) - greatestAt(i, 1)) / 2;
        tell(place, (results[i] - bitNumbers[i]) * 3 / 4);
      }
    }

    private int toldAt(int place) {
      return place >= 0 && place < told.length ? told[place] : 0;
    }

    private void tell(int place, int number) {
      if (place < 0 || place >= told.length) return;
      told[place] = Math.max(-FARTHEST_TOLD, Math.min(FARTHEST_TOLD, number));
    }

    private int gainOf(int step, int state, int input) {
      if (step < 0 || step >= bitNumbers.length || step >= checkNumbers.length) return 0;
      int gain = input == 0 ? bitNumbers[step] : -bitNumbers[step];
      return checkOf(state, input) == 0 ? gain + checkNumbers[step] : gain - checkNumbers[step];
    }

    /** The greatest sums of all steps ahead of one, for each state that they may end in. */
    private void sumAhead() {
      for (int state = 0; state < STATES; state++) ahead[0][state] = state == 0 ? 0 : UNREACHED;
      for (int step = 0; step < length && step + 1 < ahead.length; step++) {
        for (int state = 0; state < STATES; state++) ahead[step + 1][state] = UNREACHED;
        for (int i = 0; i < 2 * STATES; i++) {
          int state = i >> 1;
          int to = stateBehind(state, i & 1);
          int sum = ahead[step][state] + gainOf(step, state, i & 1);
          if (to < STATES && sum > ahead[step + 1][to]) ahead[step + 1][to] = sum;
        }
      }
    }

    /** The greatest sums of all steps from one on, for each state that they may begin in. */
    private void sumBehind() {
      for (int state = 0; state < STATES && length < behind.length; state++) behind[length][state] = 0;
      for (int step = length - 1; step >= 0 && step + 1 < behind.length; step--) {
        for (int state = 0; state < STATES; state++) {
          behind[step][state] = Math.max(sumThrough(step, state, 0), sumThrough(step, state, 1));
        }
      }
    }

    private int sumThrough(int step, int state, int input) {
      int to = stateBehind(state, input);
      if (step < 0 || step + 1 >= behind.length || to >= STATES) return UNREACHED;
      return gainOf(step, state, input) + behind[step + 1][to];
    }

    private int greatestAt(int step, int input) {
      int greatest = 2 * UNREACHED;
      for (int state = 0; state < STATES; state++) {
        int sum = sumThrough(step, state, input);
        if (step >= 0 && step < ahead.length) greatest = Math.max(greatest, ahead[step][state] + sum);
      }
      return greatest;
    }
  }

  // ------------------------------------------------------------------ graphs

  private static final class Graph extends Code {
    static final int MOST_BITS = 16;
    static final int MOST_CHECKS = 8;
    static final int MOST_CHOSEN = 3;
    private static final int LOUDEST = 31;
    private static final int COMPARED_ROUNDS = 10;
    private final int bits;
    private final int checks;
    private int edges = 0;
    /** The bits of each check, as a set. */
    private final int[] rows = new int[MOST_CHECKS];
    /** Sums of columns of bound bits by their highest check, and the bits of these. */
    private final int[] pivots = new int[MOST_CHECKS];
    private final int[] pivotBits = new int[MOST_CHECKS];
    /** The word that each free bit makes alone, as a set of bits. */
    private final int[] freeWords = new int[MOST_BITS];
    private int freeCount = 0;
    private final int[] sent = new int[MOST_BITS];
    /** The messages of checks to bits, and those that take their place behind a round. */
    private int[][] told = new int[MOST_CHECKS][MOST_BITS];
    private int[][] fresh = new int[MOST_CHECKS][MOST_BITS];
    private int settled = 0;

    Graph(int bits, int checks) {
      this.bits = bits;
      this.checks = checks;
      findFree();
    }

    char kind() {
      return 'l';
    }

    boolean isMessage(Row row) {
      return freeCount > 0 && row.isBitsOf(freeCount);
    }

    boolean fits(Row row) {
      return row.count == bits;
    }

    int turnEdge(int check, int bit) {
      if (check < 0 || check >= rows.length) return edges;
      rows[check] ^= 1 << bit;
      edges += (rows[check] >> bit & 1) == 1 ? 1 : -1;
      findFree();
      return edges;
    }

    private int columnOf(int bit) {
      int column = 0;
      for (int i = 0; i < rows.length; i++) column |= (rows[i] >> bit & 1) << i;
      return column;
    }

    /** A free bit's column is the sum of bound ones, which with it are the bits of a word. */
    private void findFree() {
      freeCount = 0;
      for (int i = 0; i < pivots.length; i++) pivots[i] = 0;
      for (int bit = 0; bit < bits; bit++) {
        int word = wordUnlessBound(bit);
        if (word != 0 && freeCount < freeWords.length) freeWords[freeCount++] = word;
      }
    }

    private int wordUnlessBound(int bit) {
      int column = columnOf(bit);
      int word = 1 << bit;
      for (int i = pivots.length - 1; i >= 0 && i < pivotBits.length; i--) {
        if ((column >> i & 1) == 0) continue;
        if (pivots[i] == 0) {
          pivots[i] = column;
          pivotBits[i] = word;
          return 0;
        }
        column ^= pivots[i];
        word ^= pivotBits[i];
      }
      return word;
    }

    void writeWord(Row message, Row to) {
      int word = 0;
      for (int i = 0; i < freeCount && i < freeWords.length; i++) if (message.get(i) == 1) word ^= freeWords[i];
      writeSet(word, to);
    }

    void writeSettled(Row to) {
      writeSet(settled, to);
    }

    private void writeSet(int word, Row to) {
      to.empty();
      for (int i = 0; i < bits; i++) to.push(word >> i & 1);
    }

    boolean isCounted() {
      return freeCount > 0 && freeCount <= LONGEST_COUNTED;
    }

    int writeUnits(int length, long[] units) {
      for (int i = 0; i < freeCount && i < freeWords.length && i < units.length; i++) units[i] = freeWords[i];
      return freeCount;
    }

    int countRings() {
      int rings = 0;
      for (int i = 0; i < rows.length; i++) {
        for (int j = 0; j < i; j++) {
          int common = Integer.bitCount(rows[i] & rows[j]);
          rings += common * (common - 1) / 2;
        }
      }
      return rings;
    }

    int countTraps(int many, int odd) {
      return countTrapsFrom(0, many, 0, odd);
    }

    /** Counts the ways to choose so many more bits, at most three, to those whose columns have a sum. */
    private int countTrapsFrom(int first, int many, int sum, int odd) {
      if (many > MOST_CHOSEN) return 0;
      if (many <= 0) return Integer.bitCount(sum) == odd ? 1 : 0;
      int found = 0;
      for (int i = first; i < bits; i++) found += countTrapsFrom(i + 1, many - 1, sum ^ columnOf(i), odd);
      return found;
    }

    boolean tellsUnlike(Row row) {
      boolean isFirstTold = settle(row, COMPARED_ROUNDS, false, false) > 0;
      int first = settled;
      boolean isSecondTold = settle(row, COMPARED_ROUNDS, true, false) > 0;
      return isFirstTold != isSecondTold || isFirstTold && first != settled;
    }

    /** Tells behind how many rounds all checks are even, 0 if it gives up. */
    int settle(Row row, int rounds, boolean isByCheck, boolean isDamped) {
      for (int i = 0; i < MOST_CHECKS; i++) {
        for (int j = 0; j < MOST_BITS; j++) {
          told[i][j] = 0;
          fresh[i][j] = 0;
        }
      }
      for (int round = 1; round <= rounds; round++) {
        for (int check = 0; check < checks; check++) tellBits(row, check, isByCheck ? told : fresh, isDamped);
        if (!isByCheck) swapTold();
        settled = wordNow(row);
        if (isEven(settled)) return round;
      }
      return 0;
    }

    private void swapTold() {
      int[][] old = told;
      told = fresh;
      fresh = old;
    }

    /** The least amount of all other bits is the least of all, or, for the bit that has it, the second one. */
    private void tellBits(Row row, int check, int[][] to, boolean isDamped) {
      int least = LOUDEST;
      int second = LOUDEST;
      int leastBit = -1;
      int negatives = 0;
      if (check < 0 || check >= rows.length || check >= to.length) return;
      for (int bit = 0; bit < bits && bit < sent.length; bit++) {
        if ((rows[check] >> bit & 1) == 0) continue;
        sent[bit] = sentBy(row, bit, check);
        int amount = Math.abs(sent[bit]);
        if (sent[bit] < 0) negatives++;
        if (leastBit < 0 || amount < least) {
          second = least;
          least = amount;
          leastBit = bit;
        } else if (amount < second) {
          second = amount;
        }
      }
      for (int bit = 0; bit < bits && bit < sent.length; bit++) {
        if ((rows[check] >> bit & 1) == 0) continue;
        int amount = bit == leastBit ? second : least;
        int others = sent[bit] < 0 ? negatives - 1 : negatives;
        int message = (others & 1) == 0 ? amount : -amount;
        to[check][bit] = isDamped ? (told[check][bit] + message) / 2 : message;
      }
    }

    private int sentBy(Row row, int bit, int check) {
      int sum = totalOf(row, bit);
      if (check >= 0 && check < told.length && bit >= 0 && bit < MOST_BITS) sum -= told[check][bit];
      return Math.max(-LOUDEST, Math.min(LOUDEST, sum));
    }

    private int totalOf(Row row, int bit) {
      int sum = row.get(bit);
      if (bit < 0 || bit >= MOST_BITS) return sum;
      for (int i = 0; i < checks && i < told.length; i++) sum += told[i][bit];
      return sum;
    }

    private int wordNow(Row row) {
      int word = 0;
      for (int i = 0; i < bits && i < MOST_BITS; i++) if (totalOf(row, i) < 0) word |= 1 << i;
      return word;
    }

    private boolean isEven(int word) {
      for (int i = 0; i < rows.length; i++) if ((Integer.bitCount(rows[i] & word) & 1) == 1) return false;
      return true;
    }
  }

  // ------------------------------------------------------------------ splits

  private static final class Splits extends Code {
    static final int MOST_POWER = 4;
    private static final int MOST_PLACES = 16;
    private static final long WHOLE = 65536L;
    private final int power;
    private final int size;
    private final int openTold;
    private final boolean isChecked;
    private final boolean[] open = new boolean[MOST_PLACES];
    private final int[] numbers = new int[MOST_PLACES];
    private final Row unit = new Row();
    private final Row unitWord = new Row();
    /** Rows of places so far, with the costs taken off 0 as metrics; the place 0 is the highest bit. */
    private Ranks here = new Ranks();
    private Ranks next = new Ranks();

    Splits(int power, int openTold, int loss, boolean isChecked) {
      this.power = power;
      this.size = 1 << power;
      this.openTold = openTold;
      this.isChecked = isChecked;
      for (int i = 0; i < size && i < open.length; i++) open[i] = true;
      for (int i = openTold; i < size; i++) shutWorst(loss);
    }

    /** Shuts the open place with the greatest number, of several the lowest one. */
    private void shutWorst(int loss) {
      int worst = -1;
      long greatest = -1;
      for (int i = 0; i < open.length; i++) {
        if (!open[i] || numberOf(i, loss) <= greatest) continue;
        worst = i;
        greatest = numberOf(i, loss);
      }
      if (worst >= 0 && worst < open.length) open[worst] = false;
    }

    private long numberOf(int place, int loss) {
      long z = loss * 4096L;
      for (int i = power - 1; i >= 0; i--) {
        long product = z * z / WHOLE;
        z = (place >> i & 1) == 0 ? 2 * z - product : product;
      }
      return z;
    }

    char kind() {
      return 'p';
    }

    private int messageLength() {
      return isChecked ? openTold - 1 : openTold;
    }

    boolean isMessage(Row row) {
      return row.isBitsOf(messageLength());
    }

    boolean fits(Row row) {
      return row.count == size;
    }

    boolean isOpenAt(int place) {
      return place >= 0 && place < open.length && open[place];
    }

    boolean isSettled() {
      int found = 0;
      for (int i = 0; i < size && i < open.length; i++) if (open[i]) found++;
      return found == openTold;
    }

    /** The places of a message, the last open one with its check. */
    private int placesOf(Row message) {
      int places = 0;
      int done = 0;
      int sum = 0;
      for (int i = 0; i < size; i++) {
        int bit = 0;
        if (isOpenAt(i)) bit = done < messageLength() ? message.get(done) : sum;
        if (isOpenAt(i)) done++;
        sum ^= bit;
        places = places << 1 | bit;
      }
      return places;
    }

    void writeWord(Row message, Row word) {
      int places = placesOf(message);
      word.empty();
      for (int i = 0; i < size; i++) word.push(wordBit(places, 0, size, i));
    }

    /** A bit of the word of some of the places. */
    private int wordBit(int places, int first, int many, int bit) {
      int sum = 0;
      for (int i = 0; i < many; i++) if ((i & bit) == bit) sum ^= places >> (size - 1 - first - i);
      return sum & 1;
    }

    boolean isCounted() {
      return messageLength() > 0 && messageLength() <= LONGEST_COUNTED;
    }

    int writeUnits(int length, long[] units) {
      for (int i = 0; i < messageLength() && i < units.length; i++) {
        unit.empty();
        for (int j = 0; j < messageLength(); j++) unit.push(i == j ? 1 : 0);
        writeWord(unit, unitWord);
        units[i] = unitWord.bitsAt(0, size);
      }
      return messageLength();
    }

    long mend(Row row, Row message) {
      return mendByList(row, 1, message);
    }

    long mendByList(Row row, int list, Row message) {
      tryPlaces(row, list);
      int found = firstRight();
      if (found < 0) return GAVE_UP;
      int places = here.bitsAt(found);
      int done = 0;
      message.empty();
      for (int i = 0; i < size; i++) {
        if (!isOpenAt(i) || done >= messageLength()) continue;
        message.push(places >> (size - 1 - i) & 1);
        done++;
      }
      return -here.metricAt(found);
    }

    boolean tellsUnlike(Row row) {
      return placesFound(row, 1) != placesFound(row, Ranks.MOST);
    }

    /** The places that a list finds, which tell the word, or -1 if it gives up. */
    private int placesFound(Row row, int list) {
      tryPlaces(row, list);
      int found = firstRight();
      return found < 0 ? -1 : here.bitsAt(found);
    }

    /** The first row whose check is right: then all its places have an even sum. */
    private int firstRight() {
      for (int i = 0; i < here.count; i++) {
        if (!isChecked || (Integer.bitCount(here.bitsAt(i)) & 1) == 0) return i;
      }
      return -1;
    }

    private void tryPlaces(Row row, int list) {
      here.begin(list);
      here.offer(0, 0);
      for (int place = 0; place < size; place++) {
        next.begin(list);
        for (int i = 0; i < here.count; i++) tryPlace(row, place, here.metricAt(i), here.bitsAt(i));
        Ranks done = here;
        here = next;
        next = done;
      }
    }

    private void tryPlace(Row row, int place, int metric, int places) {
      int number = numberAt(row, place, places << (size - place));
      next.offer(metric + Math.min(number, 0), places << 1);
      if (isOpenAt(place)) next.offer(metric - Math.max(number, 0), places << 1 | 1);
    }

    /** The number that a row has left for a place, if the places ahead are as told. */
    private int numberAt(Row row, int place, int places) {
      int first = 0;
      for (int i = 0; i < numbers.length; i++) numbers[i] = row.get(i);
      for (int level = power - 1; level >= 0; level--) {
        int half = 1 << level;
        boolean isSecond = (place >> level & 1) == 1;
        for (int i = 0; i < half && i + half < numbers.length; i++) {
          int a = numbers[i];
          int b = numbers[i + half];
          if (!isSecond) numbers[i] = lesser(a, b);
          else numbers[i] = wordBit(places, first, half, i) == 1 ? b - a : b + a;
        }
        if (isSecond) first += half;
      }
      return numbers[0];
    }

    private static int lesser(int a, int b) {
      int amount = Math.min(Math.abs(a), Math.abs(b));
      return a < 0 == b < 0 ? amount : -amount;
    }
  }

  // ---------------------------------------------------------------- products

  private static final class Product extends Code {
    private static final int SIDE = 7;
    private static final int MESSAGE = 16;
    private static final int MOST_GOES = 10;
    private final Row work = new Row();

    char kind() {
      return 'h';
    }

    boolean isMessage(Row row) {
      return row.isBitsOf(MESSAGE);
    }

    boolean fits(Row row) {
      return row.isBitsOf(SIDE * SIDE);
    }

    /** Whether a place of a row has a bit of the message. */
    private static boolean isOfMessage(int place) {
      return place == 3 || place >= 5;
    }

    private static int indexOf(int row, int column) {
      return (row - 1) * SIDE + column - 1;
    }

    void writeWord(Row message, Row word) {
      int done = 0;
      word.empty();
      for (int row = 1; row <= SIDE; row++) {
        for (int column = 1; column <= SIDE; column++) {
          word.push(isOfMessage(row) && isOfMessage(column) ? message.get(done++) : 0);
        }
      }
      for (int row = 1; row <= SIDE; row++) complete(word, indexOf(row, 1), 1);
      for (int column = 1; column <= SIDE; column++) complete(word, indexOf(1, column), SIDE);
    }

    /** Sets the checks of a line whose checks are 0 as yet. */
    private static void complete(Row word, int start, int step) {
      int odd = oddPowers(word, start, step);
      for (int place = 1; place <= SIDE; place *= 2) {
        if ((odd & place) != 0) word.set(start + (place - 1) * step, 1);
      }
    }

    /** The sum of the powers of 2 that are odd in a line, which is also the place to flip. */
    private static int oddPowers(Row word, int start, int step) {
      int odd = 0;
      for (int place = 1; place <= SIDE; place++) if (word.get(start + (place - 1) * step) == 1) odd ^= place;
      return odd;
    }

    long mend(Row row, Row message) {
      work.copy(row);
      int goes = 0;
      boolean isFlipped = true;
      while (isFlipped && goes < MOST_GOES) {
        isFlipped = flipRows();
        if (flipColumns()) isFlipped = true;
        goes++;
      }
      if (!isEven()) return GAVE_UP;
      message.empty();
      for (int i = 1; i <= SIDE; i++) {
        for (int j = 1; j <= SIDE; j++) if (isOfMessage(i) && isOfMessage(j)) message.push(work.get(indexOf(i, j)));
      }
      return goes;
    }

    private boolean flipRows() {
      boolean isFlipped = false;
      for (int row = 1; row <= SIDE; row++) if (flip(indexOf(row, 1), 1)) isFlipped = true;
      return isFlipped;
    }

    private boolean flipColumns() {
      boolean isFlipped = false;
      for (int column = 1; column <= SIDE; column++) if (flip(indexOf(1, column), SIDE)) isFlipped = true;
      return isFlipped;
    }

    private boolean flip(int start, int step) {
      int odd = oddPowers(work, start, step);
      if (odd == 0) return false;
      int index = start + (odd - 1) * step;
      work.set(index, 1 - work.get(index));
      return true;
    }

    private boolean isEven() {
      for (int i = 1; i <= SIDE; i++) {
        if (oddPowers(work, indexOf(i, 1), 1) != 0 || oddPowers(work, indexOf(1, i), SIDE) != 0) return false;
      }
      return true;
    }
  }

  // ------------------------------------------------------------------- drops

  private static final class Drops {
    static final int MOST_PIECES = 12;
    static final int MOST_DROPS = 30;
    private static final int ENOUGH_DRAWS = 1000000;
    private final int[] pieces = new int[MOST_PIECES];
    private int count = 0;
    /** The drops that came: their pieces, as sets, and values. */
    private final int[] sets = new int[MOST_DROPS];
    private final int[] values = new int[MOST_DROPS];
    private int came = 0;
    private final int[] peeledPieces = new int[MOST_PIECES];
    /** Sums of drops, each of which alone has the piece of its index, and their values. */
    private final int[] sums = new int[MOST_PIECES];
    private final int[] sumValues = new int[MOST_PIECES];
    private boolean isAgainst = false;

    void begin(Row row) {
      count = row.count;
      came = 0;
      for (int i = 0; i < pieces.length; i++) pieces[i] = row.get(i);
    }

    /** The set of pieces of the drop of a seed. */
    int drawPieces(int seed) {
      int set = 0;
      if (count < 1) return set;
      long z = drawFrom(seed);
      int degree = Math.min(degreeOf(toldBy(z) % 16), count);
      for (int i = 0; i < ENOUGH_DRAWS && Integer.bitCount(set) < degree; i++) {
        z = drawFrom(z);
        set |= 1 << toldBy(z) % count;
      }
      return set;
    }

    private static int degreeOf(int drawn) {
      if (drawn == 0) return 1;
      if (drawn <= 7) return 2;
      if (drawn <= 11) return 3;
      if (drawn <= 13) return 4;
      return drawn == 14 ? 5 : MOST_PIECES;
    }

    int valueOf(int set) {
      int value = 0;
      for (int i = 0; i < pieces.length; i++) if ((set >> i & 1) == 1) value ^= pieces[i];
      return value;
    }

    void take(int set, boolean isFlipped) {
      if (came < 0 || came >= sets.length || came >= values.length) return;
      sets[came] = set;
      values[came] = isFlipped ? valueOf(set) ^ 1 : valueOf(set);
      came++;
    }

    /** The set of pieces that are known by peeling. */
    int peel() {
      int known = 0;
      int drop = 0;
      for (int i = 0; i < (MOST_PIECES + 1) * MOST_DROPS && drop < came && drop < sets.length; i++) {
        int open = sets[drop] & ~known;
        if (Integer.bitCount(open) == 1) {
          notePeeled(drop, open, known);
          known |= open;
          drop = 0;
        } else {
          drop++;
        }
      }
      return known;
    }

    private void notePeeled(int drop, int open, int known) {
      if (drop < 0 || drop >= sets.length || drop >= values.length) return;
      int value = values[drop];
      for (int i = 0; i < peeledPieces.length; i++) if ((sets[drop] & known & 1 << i) != 0) value ^= peeledPieces[i];
      for (int i = 0; i < peeledPieces.length; i++) if (open == 1 << i) peeledPieces[i] = value;
    }

    /** Brings the sums of all drops to the form in which a piece that is told stands alone. */
    void reduce() {
      isAgainst = false;
      for (int i = 0; i < sums.length; i++) sums[i] = 0;
      for (int i = 0; i < came && i < sets.length && i < values.length; i++) addSum(sets[i], values[i]);
    }

    private void addSum(int set, int value) {
      int left = set;
      int leftValue = value;
      int lead = -1;
      for (int i = 0; i < sums.length && i < sumValues.length; i++) {
        if ((left >> i & 1) == 0) continue;
        if (sums[i] == 0) {
          if (lead < 0) lead = i;
          continue;
        }
        left ^= sums[i];
        leftValue ^= sumValues[i];
      }
      if (lead >= 0) keepSum(lead, left, leftValue);
      else if (leftValue != 0) isAgainst = true;
    }

    private void keepSum(int lead, int set, int value) {
      if (lead < 0 || lead >= sums.length || lead >= sumValues.length) return;
      for (int i = 0; i < sums.length && i < sumValues.length; i++) {
        if ((sums[i] >> lead & 1) == 0) continue;
        sums[i] ^= set;
        sumValues[i] ^= value;
      }
      sums[lead] = set;
      sumValues[lead] = value;
    }

    /** The set of pieces that the sums tell. */
    int told() {
      int set = 0;
      for (int i = 0; i < sums.length; i++) if (sums[i] == 1 << i) set |= 1 << i;
      return set;
    }

    int toldPiece(int piece) {
      return piece >= 0 && piece < sumValues.length ? sumValues[piece] : 0;
    }

    /** Whether peeling tells nothing else than all drops together, if these are not against each other. */
    boolean agree() {
      int known = peel();
      reduce();
      if (isAgainst) return true;
      for (int i = 0; i < peeledPieces.length; i++) {
        if ((known >> i & 1) == 0) continue;
        if ((told() >> i & 1) == 0 || peeledPieces[i] != toldPiece(i)) return false;
      }
      return true;
    }
  }

  // ---------------------------------------------------------------- requests

  private static final class Request {
    private static final int LOUDNESS = 9;
    private final Shift code;
    /** The message that is sent, with its rest. */
    private final int message;
    private final int length;
    private final long outputs;
    private final int[] known = new int[Shift.MOST_OUTPUTS];
    private int sent = 0;
    private boolean isAccepted = false;
    private int heard = 0;

    Request(Shift code, int bits, int count) {
      this.code = code;
      this.message = bits << REST_BITS | restOf(bits, count);
      this.length = count + REST_BITS;
      this.outputs = code.outputsOf(message, length);
    }

    void writeVersion(int version, Row row) {
      code.writeKept(outputs, length, version, LOUDNESS, -LOUDNESS, row);
    }

    /** Adds what came of a version to what is known, and looks whether the best message is right. */
    void hear(int version, Row row) {
      int next = 0;
      for (int i = 0; i < code.steps(length) * code.perStep && i < known.length; i++) {
        if (code.isKept(i, version)) known[i] += row.get(next++);
      }
      sent++;
      heard = code.bestBy(known, length);
      isAccepted = isRight(heard);
    }

    private boolean isRight(int bits) {
      return restOf(bits >> REST_BITS, length - REST_BITS) == (bits & 15);
    }

    boolean isSettled() {
      return !isAccepted || isRight(heard);
    }
  }
}
