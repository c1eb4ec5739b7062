import java.util.Arrays;
import java.util.NoSuchElementException;

/** Houses that carry for one another: ../shared/DOC.md says what each call promises. */
public final class Valleyfree {
  private static final int NONE = -1;
  private static final int LANDS = 4;
  private static final int HOUSES = 14;
  private static final int LINKS = 30;
  private static final int LIKES = 10;
  private static final int BLOCKS = 8;
  /** A block has three numbers: itself whole, and its two halves. */
  private static final int PARTS = 3;
  private static final int WHOLE = -1;
  private static final int SAYINGS = 60;
  private static final int ROUNDS = 40;
  private static final int STEPS = 14;
  private static final int WINDOWS = 5;
  private static final int WAYS_SEEN = 24;
  private static final int LINKS_TRIED = 10;
  private static final int PRICES = 1000;
  private static final int AMOUNTS = 10000;
  private static final int SAMPLES = 60;
  private static final int SAMPLES_FOR_ONE_AWAY = 20;
  private static final int LEAST_RATIO = 10;
  private static final int GREATEST_RATIO = 99;
  private static final int HALLS = 4;

  /** How a step goes, seen from its first house; the step back is the negative. */
  private static final int UP = 1;
  private static final int LEVEL = 0;
  private static final int DOWN = -1;
  private static final int ASIDE = 2;

  private final Net net = new Net();
  private final Numbers numbers = new Numbers();
  private final Ways ways = new Ways();
  /** A second row of ways, for calls that need two at once. */
  private final Ways otherWays = new Ways();
  private final Sights sights = new Sights();
  private final Votes ballot = new Votes();
  private final Naming naming = new Naming();
  private final Samples samples = new Samples();
  private final Halls halls = new Halls();

  public Valleyfree() {
  }

  // Houses and links

  public int addHouse(int land) throws IllegalArgumentException, IllegalStateException {
    checkRange(land, LANDS);
    if (net.houses >= HOUSES) {
      throw new IllegalStateException("there is no room for a house");
    }
    return net.putHouse(land);
  }

  public int addLink(int first, int second, char contract)
      throws IndexOutOfBoundsException, IllegalArgumentException, UnsupportedOperationException,
      IllegalStateException {
    checkHouse(first);
    checkHouse(second);
    if (first == second || (contract != 'c' && contract != 'e' && contract != 's')) {
      throw new IllegalArgumentException("no such link can be");
    }
    if (net.linkBetween(first, second) != NONE) {
      throw new UnsupportedOperationException("there is a link between them");
    }
    if (net.links >= LINKS) {
      throw new IllegalStateException("there is no room for a link");
    }
    return net.putLink(first, second, contract);
  }

  public char contract(int link) throws IndexOutOfBoundsException {
    checkLink(link);
    return net.contracts[link];
  }

  public boolean cut(int link, boolean is) throws IndexOutOfBoundsException {
    checkLink(link);
    boolean was = net.isCut[link];
    net.isCut[link] = is;
    return was;
  }

  public int like(int house, int neighbour, int like)
      throws IndexOutOfBoundsException, IllegalArgumentException, UnsupportedOperationException {
    checkHouse(house);
    checkHouse(neighbour);
    checkRange(like, LIKES);
    if (net.linkBetween(house, neighbour) == NONE) {
      throw new UnsupportedOperationException("there is no link between them");
    }
    int before = net.likes[house][neighbour];
    net.likes[house][neighbour] = like;
    return before;
  }

  public boolean leak(int house, boolean is) throws IndexOutOfBoundsException {
    checkHouse(house);
    boolean did = net.leaks[house];
    net.leaks[house] = is;
    return did;
  }

  public boolean filter(int house, char kind, boolean is)
      throws IndexOutOfBoundsException, IllegalArgumentException {
    checkHouse(house);
    if (kind != 'o' && kind != 'l') {
      throw new IllegalArgumentException("there is no such filter");
    }
    boolean[] filters = kind == 'o' ? net.filtersOrigins : net.filtersLocks;
    boolean did = filters[house];
    filters[house] = is;
    return did;
  }

  // Numbers and ways

  public int say(int house, int block, int half)
      throws IndexOutOfBoundsException, IllegalArgumentException, UnsupportedOperationException,
      IllegalStateException {
    checkHouse(house);
    int number = numberOf(block, half);
    if (numbers.isSaid(number, house)) {
      throw new UnsupportedOperationException("the house says so");
    }
    if (numbers.openSayings >= SAYINGS) {
      throw new IllegalStateException("there is no room for a saying");
    }
    return numbers.open(number, house);
  }

  public int unsay(int house, int block, int half)
      throws IndexOutOfBoundsException, IllegalArgumentException, NoSuchElementException {
    checkHouse(house);
    int number = numberOf(block, half);
    if (!numbers.isSaid(number, house)) {
      throw new NoSuchElementException("the house does not say so");
    }
    return numbers.close(number, house);
  }

  public int sign(int block, int house, boolean withHalves)
      throws IndexOutOfBoundsException, IllegalArgumentException {
    checkHouse(house);
    checkRange(block, BLOCKS);
    int before = numbers.signedFor[block];
    numbers.signedFor[block] = house;
    numbers.withHalves[block] = withHalves;
    return before;
  }

  public boolean areSettled(int block, int half) throws IllegalArgumentException {
    ways.settle(net, numbers, numberOf(block, half));
    return ways.areStill;
  }

  public int rounds(int block, int half) throws IllegalArgumentException {
    ways.settle(net, numbers, numberOf(block, half));
    return ways.changes;
  }

  public int wayLength(int house, int block, int half)
      throws IndexOutOfBoundsException, IllegalArgumentException, NoSuchElementException {
    return Row.size(rowOf(house, block, half));
  }

  public int wayAt(int house, int block, int half, int index)
      throws IndexOutOfBoundsException, IllegalArgumentException, NoSuchElementException {
    return houseIn(rowOf(house, block, half), index);
  }

  public char rank(int house, int block, int half)
      throws IndexOutOfBoundsException, IllegalArgumentException, NoSuchElementException {
    rowOf(house, block, half);
    return ways.ranks[house];
  }

  public int arrives(int house, int block, int half)
      throws IndexOutOfBoundsException, IllegalArgumentException, NoSuchElementException {
    checkHouse(house);
    settleTraffic(block, half);
    int end = endOfTraffic(house);
    if (end == NONE) {
      throw new NoSuchElementException("it does not arrive");
    }
    return end;
  }

  public int catchment(int house, int block, int half)
      throws IndexOutOfBoundsException, IllegalArgumentException {
    checkHouse(house);
    settleTraffic(block, half);
    int count = 0;
    for (int from = 0; from < net.houses; from++) {
      if (endOfTraffic(from) == house) {
        count++;
      }
    }
    return count;
  }

  public int abroad(int block, int half) throws IllegalArgumentException {
    ways.settle(net, numbers, numberOf(block, half));
    int count = 0;
    for (int house = 0; house < net.houses; house++) {
      if (ways.rows[house] != Row.NO_ROW && net.leavesItsLand(ways.rows[house])) {
        count++;
      }
    }
    return count;
  }

  public int harm(int link, int block, int half)
      throws IndexOutOfBoundsException, IllegalArgumentException {
    checkLink(link);
    int number = numberOf(block, half);
    ways.settle(net, numbers, number);
    return lostByCut(link, number);
  }

  public int weakest(int block, int half) throws IllegalArgumentException, NoSuchElementException {
    int number = numberOf(block, half);
    ways.settle(net, numbers, number);
    int weakest = NONE;
    int most = 0;
    for (int link = 0; link < net.links; link++) {
      int lost = net.isCut[link] ? 0 : lostByCut(link, number);
      if (lost > most) {
        most = lost;
        weakest = link;
      }
    }
    if (weakest == NONE) {
      throw new NoSuchElementException("no cut takes a way");
    }
    return weakest;
  }

  public int paidWays(int house) throws IndexOutOfBoundsException {
    checkHouse(house);
    int count = 0;
    for (int block = 0; block < BLOCKS; block++) {
      ways.settle(net, numbers, numberOf(block, WHOLE));
      if (ways.rows[house] != Row.NO_ROW && ways.ranks[house] == 'p') {
        count++;
      }
    }
    return count;
  }

  // Windows and names

  public int addWindow(int house) throws IndexOutOfBoundsException, IllegalStateException {
    checkHouse(house);
    if (sights.windows >= WINDOWS) {
      throw new IllegalStateException("there is no room for a window");
    }
    return sights.putWindow(house);
  }

  public int look(int window, int block, int half)
      throws IndexOutOfBoundsException, IllegalArgumentException, NoSuchElementException,
      IllegalStateException {
    if (window < 0 || window >= sights.windows) {
      throw new IndexOutOfBoundsException("there is no such window");
    }
    long row = rowOf(sights.houses[window], block, half);
    if (sights.isNew(row)) {
      if (sights.count >= WAYS_SEEN) {
        throw new IllegalStateException("there is no room for a way");
      }
      sights.putRow(net, row);
    }
    return sights.count;
  }

  public int seen() {
    return sights.count;
  }

  public int seenAt(int way, int index) throws NoSuchElementException {
    if (way < 0 || way >= sights.count) {
      throw new NoSuchElementException("there is no such way");
    }
    return houseIn(sights.rows[way], index);
  }

  public int forget() {
    return sights.clear();
  }

  public int degree(int house) throws IndexOutOfBoundsException {
    checkHouse(house);
    return sights.linksSeenAt(net, house);
  }

  public int votes(int link, boolean isFirst)
      throws IndexOutOfBoundsException, UnsupportedOperationException {
    checkSeen(link);
    ballot.count(net, sights);
    return isFirst ? ballot.forFirst[link] : ballot.forSecond[link];
  }

  public char name(int link) throws IndexOutOfBoundsException, UnsupportedOperationException {
    checkSeen(link);
    ballot.count(net, sights);
    return signOf(ballot.slopes[link]);
  }

  public int against() {
    ballot.count(net, sights);
    return sights.valleys(net, ballot.slopes);
  }

  public boolean areNameable() {
    naming.find(net, sights);
    return naming.isFound;
  }

  public char exact(int link)
      throws IndexOutOfBoundsException, UnsupportedOperationException, NoSuchElementException {
    checkSeen(link);
    naming.find(net, sights);
    if (!naming.isFound) {
      throw new NoSuchElementException("there is no such naming");
    }
    return signOf(naming.slopes[link]);
  }

  public int fewest() throws UnsupportedOperationException {
    if (Integer.bitCount(sights.links) > LINKS_TRIED) {
      throw new UnsupportedOperationException("too many links are seen");
    }
    return naming.fewestValleys(net, sights);
  }

  public int wrong() {
    ballot.count(net, sights);
    int count = 0;
    for (int link = 0; link < net.links; link++) {
      int right = net.contracts[link] == 'c' ? UP : LEVEL;
      if (sights.isSeen(link) && ballot.slopes[link] != right) {
        count++;
      }
    }
    return count;
  }

  // Cones and shares

  public int cone(int house) throws IndexOutOfBoundsException {
    checkHouse(house);
    return Integer.bitCount(net.reachedDown(house));
  }

  public boolean isInCone(int house, int other) throws IndexOutOfBoundsException {
    checkHouse(house);
    checkHouse(other);
    return hasBit(net.reachedDown(house), other);
  }

  public float share(int house, int block, int half)
      throws IndexOutOfBoundsException, IllegalArgumentException, NoSuchElementException {
    checkHouse(house);
    ways.settle(net, numbers, numberOf(block, half));
    int all = ways.countCarried();
    if (all == 0) {
      throw new NoSuchElementException("no other house than origins has a way");
    }
    return (float) ways.countBehind(house) / (float) all;
  }

  // Bills and halls

  public int terms(int link, int price, int commit)
      throws IndexOutOfBoundsException, IllegalArgumentException, UnsupportedOperationException {
    checkLink(link);
    checkRange(price, PRICES);
    checkRange(commit, AMOUNTS);
    checkContract(link, 'c');
    int before = samples.prices[link];
    samples.prices[link] = price;
    samples.commits[link] = commit;
    return before;
  }

  public int sample(int link, int forth, int back)
      throws IndexOutOfBoundsException, IllegalArgumentException, IllegalStateException {
    checkLink(link);
    checkRange(forth, AMOUNTS);
    checkRange(back, AMOUNTS);
    if (samples.counts[link] >= SAMPLES) {
      throw new IllegalStateException("there is no room for a sample");
    }
    return samples.put(link, forth, back);
  }

  public int use(int link) throws IndexOutOfBoundsException {
    checkLink(link);
    return samples.useOf(link);
  }

  public int bill(int link) throws IndexOutOfBoundsException, UnsupportedOperationException {
    checkLink(link);
    checkContract(link, 'c');
    return samples.prices[link] * Math.max(samples.useOf(link), samples.commits[link]);
  }

  public int clearSamples(int link) throws IndexOutOfBoundsException {
    checkLink(link);
    return samples.clear(link);
  }

  public boolean quarrels(int link, int ratio)
      throws IndexOutOfBoundsException, IllegalArgumentException, UnsupportedOperationException {
    checkLink(link);
    if (ratio < LEAST_RATIO || ratio > GREATEST_RATIO) {
      throw new IllegalArgumentException("a number is out of range");
    }
    checkContract(link, 'e');
    int greater = Math.max(samples.sumsForth[link], samples.sumsBack[link]);
    int other = Math.min(samples.sumsForth[link], samples.sumsBack[link]);
    return 10 * greater > ratio * other;
  }

  public int addHall() throws IllegalStateException {
    if (halls.count >= HALLS) {
      throw new IllegalStateException("there is no room for a hall");
    }
    return halls.put();
  }

  public boolean join(int hall, int house, boolean is) throws IndexOutOfBoundsException {
    if (hall < 0 || hall >= halls.count) {
      throw new IndexOutOfBoundsException("there is no such hall");
    }
    checkHouse(house);
    return halls.let(hall, house, is);
  }

  public int meet(int house, int other) throws IndexOutOfBoundsException, NoSuchElementException {
    checkHouse(house);
    checkHouse(other);
    int hall = halls.lowestWith(house, other);
    if (hall == NONE) {
      throw new NoSuchElementException("they do not meet");
    }
    return hall;
  }

  // Sums

  public long checksum() {
    long sum = 7;
    for (int block = 0; block < BLOCKS; block++) {
      ways.settle(net, numbers, numberOf(block, WHOLE));
      for (int house = 0; house < net.houses; house++) {
        sum = 31 * sum + Row.size(ways.rows[house]);
      }
    }
    for (int way = 0; way < sights.count; way++) {
      sum = 31 * sum + Row.size(sights.rows[way]);
    }
    for (int link = 0; link < net.links; link++) {
      sum = 31 * sum + samples.useOf(link);
      sum = 31 * sum + (net.isCut[link] ? 1 : 0);
    }
    return sum;
  }

  public double meanLength() throws NoSuchElementException {
    if (sights.count == 0) {
      throw new NoSuchElementException("no way is seen");
    }
    int sum = 0;
    for (int way = 0; way < sights.count; way++) {
      sum += Row.size(sights.rows[way]);
    }
    return (double) sum / (double) sights.count;
  }

  public boolean isSound() {
    boolean mustBeHills = !net.anyLeaks();
    for (int block = 0; block < BLOCKS; block++) {
      if (!areWaysSound(numberOf(block, WHOLE), mustBeHills)) {
        return false;
      }
    }
    naming.find(net, sights);
    return !naming.isFound || sights.valleys(net, naming.slopes) == 0;
  }

  // What the calls share

  private void checkRange(int value, int end) {
    if (value < 0 || value >= end) {
      throw new IllegalArgumentException("a number is out of range");
    }
  }

  private void checkHouse(int house) {
    if (!net.hasHouse(house)) {
      throw new IndexOutOfBoundsException("there is no such house");
    }
  }

  private void checkLink(int link) {
    if (!net.hasLink(link)) {
      throw new IndexOutOfBoundsException("there is no such link");
    }
  }

  private void checkSeen(int link) {
    checkLink(link);
    if (!sights.isSeen(link)) {
      throw new UnsupportedOperationException("the link is not seen");
    }
  }

  private void checkContract(int link, char wanted) {
    if (net.contracts[link] != wanted) {
      throw new UnsupportedOperationException("the link has another contract");
    }
  }

  private int numberOf(int block, int half) {
    checkRange(block, BLOCKS);
    checkRange(half - WHOLE, PARTS);
    return PARTS * block + (half - WHOLE);
  }

  private long rowOf(int house, int block, int half) {
    checkHouse(house);
    ways.settle(net, numbers, numberOf(block, half));
    long row = ways.rows[house];
    if (row == Row.NO_ROW) {
      throw new NoSuchElementException("the house has no way");
    }
    return row;
  }

  private int houseIn(long row, int index) {
    if (index < 0 || index >= Row.size(row)) {
      throw new NoSuchElementException("there is no such index");
    }
    return Row.houseAt(row, index);
  }

  private char signOf(int slope) {
    if (slope == UP) {
      return '<';
    }
    return slope == DOWN ? '>' : '=';
  }

  private static boolean hasBit(int bits, int index) {
    return (bits >> index & 1) == 1;
  }

  /** Leaves the ways to the half in ways, those to its whole block in otherWays. */
  private void settleTraffic(int block, int half) {
    checkRange(half, PARTS - 1);
    ways.settle(net, numbers, numberOf(block, half));
    otherWays.settle(net, numbers, numberOf(block, WHOLE));
  }

  private int endOfTraffic(int from) {
    int house = from;
    for (int step = 0; step <= STEPS; step++) {
      long row = net.hasHouse(house) ? ways.rows[house] : Row.NO_ROW;
      if (row == Row.NO_ROW) {
        row = net.hasHouse(house) ? otherWays.rows[house] : Row.NO_ROW;
      }
      if (row == Row.NO_ROW) {
        return NONE;
      }
      if (Row.size(row) == 1) {
        return house;
      }
      house = Row.houseAt(row, 1);
    }
    return NONE;
  }

  /** Takes it that ways holds the ways as they are; cuts the link for a while. */
  private int lostByCut(int link, int number) {
    boolean was = net.isCut[link];
    net.isCut[link] = true;
    otherWays.settle(net, numbers, number);
    net.isCut[link] = was;
    int lost = 0;
    for (int house = 0; house < net.houses; house++) {
      if (ways.rows[house] != Row.NO_ROW && otherWays.rows[house] == Row.NO_ROW) {
        lost++;
      }
    }
    return lost;
  }

  private boolean areWaysSound(int number, boolean mustBeHills) {
    ways.settle(net, numbers, number);
    for (int house = 0; house < net.houses; house++) {
      long row = ways.rows[house];
      if (row == Row.NO_ROW) {
        continue;
      }
      boolean isRight = Row.houseAt(row, 0) == house && !Row.repeats(row)
          && numbers.isSaid(number, Row.lastOf(row));
      if (!isRight || (mustBeHills && !net.isHill(row, net.slopes))) {
        return false;
      }
    }
    return true;
  }

  /**
   * Rows of houses, each kept in a long, so that a run makes no objects for them: four bits for a
   * house, the first house lowest, and above the houses the length.
   */
  private static final class Row {
    static final long NO_ROW = 0;
    static final int BITS = 4;
    static final int LENGTH_AT = BITS * HOUSES;
    static final long HOUSES_ONLY = (1L << LENGTH_AT) - 1;

    static int size(long row) {
      return (int) (row >>> LENGTH_AT);
    }

    static int houseAt(long row, int index) {
      return (int) (row >>> BITS * index) & (1 << BITS) - 1;
    }

    static int lastOf(long row) {
      return houseAt(row, size(row) - 1);
    }

    static long alone(int house) {
      return 1L << LENGTH_AT | house;
    }

    static long ahead(int house, long row) {
      return (long) (size(row) + 1) << LENGTH_AT | (row << BITS & HOUSES_ONLY) | house;
    }

    /** One bit for each house that is in the row. */
    static int members(long row) {
      int members = 0;
      for (int index = 0; index < size(row); index++) {
        members |= 1 << houseAt(row, index);
      }
      return members;
    }

    static boolean repeats(long row) {
      return Integer.bitCount(members(row)) != size(row);
    }
  }

  /** The houses with what they do, and the links between them. */
  private static final class Net {
    int houses = 0;
    int links = 0;
    final int[] lands = new int[HOUSES];
    final boolean[] leaks = new boolean[HOUSES];
    final boolean[] filtersOrigins = new boolean[HOUSES];
    final boolean[] filtersLocks = new boolean[HOUSES];
    final int[][] likes = new int[HOUSES][HOUSES];
    /** For each house one bit for each house that it pays, also along a link that is cut. */
    final int[] paid = new int[HOUSES];
    /** The number of the link between two houses, and one more; 0 without a link. */
    final int[][] linkAndOne = new int[HOUSES][HOUSES];
    final int[] firsts = new int[LINKS];
    final int[] seconds = new int[LINKS];
    final char[] contracts = new char[LINKS];
    final boolean[] isCut = new boolean[LINKS];
    /** How a step from the first house to the second one goes, by contract. */
    final int[] slopes = new int[LINKS];

    boolean hasHouse(int house) {
      return house >= 0 && house < houses;
    }

    boolean hasLink(int link) {
      return link >= 0 && link < links;
    }

    int putHouse(int land) {
      int house = houses;
      lands[house] = land;
      houses++;
      return house;
    }

    int putLink(int first, int second, char letter) {
      int link = links;
      firsts[link] = first;
      seconds[link] = second;
      contracts[link] = letter;
      slopes[link] = slopeOf(letter);
      if (letter == 'c') {
        paid[first] |= 1 << second;
      }
      links++;
      linkAndOne[first][second] = links;
      linkAndOne[second][first] = links;
      return link;
    }

    int slopeOf(char letter) {
      if (letter == 'c') {
        return UP;
      }
      return letter == 'e' ? LEVEL : ASIDE;
    }

    int linkBetween(int house, int other) {
      if (house < 0 || house >= houses || other < 0 || other >= houses) {
        return NONE;
      }
      return linkAndOne[house][other] - 1;
    }

    boolean doesPay(int house, int other) {
      return (paid[house] >> other & 1) == 1;
    }

    boolean anyLeaks() {
      for (int house = 0; house < houses; house++) {
        if (leaks[house]) {
          return true;
        }
      }
      return false;
    }

    int landOf(int house) {
      return hasHouse(house) ? lands[house] : NONE;
    }

    /** Whether a row begins and ends in one land, and has a house of another one. */
    boolean leavesItsLand(long row) {
      int home = landOf(Row.lastOf(row));
      if (landOf(Row.houseAt(row, 0)) != home) {
        return false;
      }
      for (int index = 0; index < Row.size(row); index++) {
        if (landOf(Row.houseAt(row, index)) != home) {
          return true;
        }
      }
      return false;
    }

    /** Whether a row is a hill, each link going so from its first house to its second one. */
    boolean isHill(long row, int[] slopesOfLinks) {
      boolean isPastTop = false;
      for (int index = 0; index + 1 < Row.size(row); index++) {
        int slope = slopeOfStep(row, index, slopesOfLinks);
        if (slope == ASIDE) {
          continue;
        }
        if (isPastTop && slope != DOWN) {
          return false;
        }
        isPastTop = slope != UP;
      }
      return true;
    }

    int slopeOfStep(long row, int index, int[] slopesOfLinks) {
      int from = Row.houseAt(row, index);
      int link = linkBetween(from, Row.houseAt(row, index + 1));
      if (link < 0 || link >= slopesOfLinks.length) {
        return ASIDE;
      }
      int slope = slopesOfLinks[link];
      return slope == ASIDE || firsts[link] == from ? slope : -slope;
    }

    /** One bit for each house of the cone of a house. */
    int reachedDown(int house) {
      int reached = 1 << house;
      for (int pass = 0; pass < HOUSES; pass++) {
        int before = reached;
        for (int link = 0; link < links; link++) {
          reached |= isCut[link] ? 0 : reachedAlong(link, reached);
        }
        if (reached == before) {
          break;
        }
      }
      return reached;
    }

    int reachedAlong(int link, int reached) {
      int more = 0;
      if (contracts[link] != 'e' && hasBit(reached, seconds[link])) {
        more |= 1 << firsts[link];
      }
      if (contracts[link] == 's' && hasBit(reached, firsts[link])) {
        more |= 1 << seconds[link];
      }
      return more;
    }
  }

  /** Who says that it has which number, and for whom blocks are signed. */
  private static final class Numbers {
    int openSayings = 0;
    /** For each number one bit for each house that says so. */
    final int[] sayers = new int[PARTS * BLOCKS];
    final int[] signedFor = new int[BLOCKS];
    final boolean[] withHalves = new boolean[BLOCKS];

    Numbers() {
      Arrays.fill(signedFor, NONE);
    }

    boolean isSaid(int number, int house) {
      return hasBit(sayers[number], house);
    }

    int open(int number, int house) {
      sayers[number] |= 1 << house;
      openSayings++;
      return Integer.bitCount(sayers[number]);
    }

    int close(int number, int house) {
      sayers[number] &= ~(1 << house);
      openSayings--;
      return Integer.bitCount(sayers[number]);
    }

    /** Whether signing rules out that a way to the number ends at the origin. */
    boolean isUnsigned(int number, int origin) {
      int block = number / PARTS;
      boolean isHalf = number % PARTS != 0;
      if (signedFor[block] == NONE) {
        return false;
      }
      return signedFor[block] != origin || (isHalf && !withHalves[block]);
    }
  }

  /** The ways of all houses to one number, as the rounds leave them. */
  private static final class Ways {
    final long[] rows = new long[HOUSES];
    final char[] ranks = new char[HOUSES];
    final int[] members = new int[HOUSES];
    final long[] nextRows = new long[HOUSES];
    final char[] nextRanks = new char[HOUSES];
    final int[] nextMembers = new int[HOUSES];
    int changes = 0;
    boolean areStill = false;

    void settle(Net net, Numbers numbers, int number) {
      Arrays.fill(rows, Row.NO_ROW);
      changes = 0;
      areStill = false;
      for (int round = 0; round < ROUNDS && !areStill; round++) {
        for (int house = 0; house < net.houses; house++) {
          takeBest(net, numbers, number, house);
        }
        areStill = !turnRound();
        changes += areStill ? 0 : 1;
      }
      if (!areStill) {
        Arrays.fill(rows, Row.NO_ROW);
      }
    }

    /** Lets what the houses took be what they have, and tells whether that changes a way. */
    boolean turnRound() {
      boolean isChanged = false;
      for (int house = 0; house < HOUSES; house++) {
        if (nextRows[house] != rows[house]) {
          isChanged = true;
        }
        rows[house] = nextRows[house];
        ranks[house] = nextRanks[house];
        members[house] = nextMembers[house];
      }
      return isChanged;
    }

    void takeBest(Net net, Numbers numbers, int number, int house) {
      if (numbers.isSaid(number, house)) {
        take(house, Row.alone(house), 'c');
        return;
      }
      int bestWorth = NONE;
      long bestRow = Row.NO_ROW;
      char bestLetter = ' ';
      for (int neighbour = 0; neighbour < net.houses; neighbour++) {
        int link = net.linkBetween(house, neighbour);
        if (link == NONE || !isOffered(net, link, house, neighbour)
            || isRefused(net, numbers, number, house, neighbour)) {
          continue;
        }
        char letter = rankAlong(net, link, neighbour);
        int worth = worthOf(net.likes[house][neighbour], letter, rows[neighbour]);
        if (worth > bestWorth) {
          bestWorth = worth;
          bestRow = Row.ahead(house, rows[neighbour]);
          bestLetter = letter;
        }
      }
      take(house, bestRow, bestLetter);
    }

    void take(int house, long row, char letter) {
      nextRows[house] = row;
      nextRanks[house] = letter;
      nextMembers[house] = Row.members(row);
    }

    boolean isOffered(Net net, int link, int house, int neighbour) {
      if (net.isCut[link] || rows[neighbour] == Row.NO_ROW || hasBit(members[neighbour], house)) {
        return false;
      }
      return ranks[neighbour] == 'c' || net.leaks[neighbour] || net.contracts[link] == 's'
          || net.doesPay(house, neighbour);
    }

    boolean isRefused(Net net, Numbers numbers, int number, int house, int neighbour) {
      if (net.filtersOrigins[house] && numbers.isUnsigned(number, Row.lastOf(rows[neighbour]))) {
        return true;
      }
      return net.filtersLocks[house] && !net.doesPay(house, neighbour)
          && (members[neighbour] & net.paid[house]) != 0;
    }

    /** The rank of a way that comes along a link from a neighbour. */
    char rankAlong(Net net, int link, int neighbour) {
      if (net.contracts[link] == 'e') {
        return 'e';
      }
      if (net.contracts[link] == 's') {
        return ranks[neighbour];
      }
      return net.firsts[link] == neighbour ? 'c' : 'p';
    }

    /** Greater for a better way: by like, then by rank, then by length. */
    int worthOf(int like, char letter, long row) {
      int rankWorth = letter == 'c' ? 2 : letter == 'e' ? 1 : 0;
      int shortness = HOUSES - Row.size(row);
      return (like * 3 + rankWorth) * (HOUSES + 1) + shortness;
    }

    /** How many houses have a way that is not their own. */
    int countCarried() {
      int count = 0;
      for (int house = 0; house < HOUSES; house++) {
        if (Row.size(rows[house]) > 1) {
          count++;
        }
      }
      return count;
    }

    /** How many houses have a way in which a house is, but not as the first one. */
    int countBehind(int behind) {
      int count = 0;
      for (int house = 0; house < HOUSES; house++) {
        if (house != behind && hasBit(Row.members(rows[house]), behind)) {
          count++;
        }
      }
      return count;
    }
  }

  /** The windows, and the ways seen through them. */
  private static final class Sights {
    int windows = 0;
    final int[] houses = new int[WINDOWS];
    int count = 0;
    final long[] rows = new long[WAYS_SEEN];
    /** One bit for each link that is seen. */
    int links = 0;

    int putWindow(int house) {
      int window = windows;
      houses[window] = house;
      windows++;
      return window;
    }

    boolean isNew(long row) {
      if (Row.size(row) < 2) {
        return false;
      }
      for (int way = 0; way < count; way++) {
        if (rows[way] == row) {
          return false;
        }
      }
      return true;
    }

    void putRow(Net net, long row) {
      rows[count] = row;
      count++;
      for (int index = 0; index + 1 < Row.size(row); index++) {
        int link = net.linkBetween(Row.houseAt(row, index), Row.houseAt(row, index + 1));
        links |= link == NONE ? 0 : 1 << link;
      }
    }

    int clear() {
      int before = count;
      count = 0;
      links = 0;
      return before;
    }

    boolean isSeen(int link) {
      return hasBit(links, link);
    }

    int linksSeenAt(Net net, int house) {
      int seenThere = 0;
      for (int link = 0; link < net.links; link++) {
        if (isSeen(link) && (net.firsts[link] == house || net.seconds[link] == house)) {
          seenThere++;
        }
      }
      return seenThere;
    }

    /** How many ways seen are no hills if links go so. */
    int valleys(Net net, int[] slopes) {
      return valleysBelow(net, slopes, WAYS_SEEN + 1);
    }

    /** The same, but stops to count when there are as many as a limit. */
    int valleysBelow(Net net, int[] slopes, int limit) {
      int found = 0;
      for (int way = 0; way < count && found < limit; way++) {
        if (!net.isHill(rows[way], slopes)) {
          found++;
        }
      }
      return found;
    }
  }

  /** The votes for links, and the names that follow from them. */
  private static final class Votes {
    final int[] degrees = new int[HOUSES];
    final int[] forFirst = new int[LINKS];
    final int[] forSecond = new int[LINKS];
    final int[] slopes = new int[LINKS];

    void count(Net net, Sights sights) {
      Arrays.fill(forFirst, 0);
      Arrays.fill(forSecond, 0);
      for (int house = 0; house < net.houses; house++) {
        degrees[house] = sights.linksSeenAt(net, house);
      }
      for (int way = 0; way < sights.count; way++) {
        countRow(net, sights.rows[way]);
      }
      for (int link = 0; link < net.links; link++) {
        slopes[link] = Integer.compare(forFirst[link], forSecond[link]);
      }
    }

    void countRow(Net net, long row) {
      int top = topOf(row);
      for (int index = 0; index + 1 < Row.size(row); index++) {
        int from = Row.houseAt(row, index);
        int to = Row.houseAt(row, index + 1);
        int payer = index < top ? from : to;
        int link = net.linkBetween(from, to);
        if (link == NONE) {
          continue;
        }
        if (net.firsts[link] == payer) {
          forFirst[link]++;
        } else {
          forSecond[link]++;
        }
      }
    }

    int topOf(long row) {
      int top = 0;
      for (int index = 1; index < Row.size(row); index++) {
        if (degreeOf(Row.houseAt(row, index)) > degreeOf(Row.houseAt(row, top))) {
          top = index;
        }
      }
      return top;
    }

    int degreeOf(int house) {
      return house >= 0 && house < HOUSES ? degrees[house] : 0;
    }
  }

  /**
   * Names of the links seen, up or down alone. A way is a hill then if no step down has a step up
   * next behind it, so each two steps make a rule with two sides: the former is up or the latter is
   * down. A choice is twice the number of a link, one more if the link is named '>'.
   */
  private static final class Naming {
    static final int CHOICES = 2 * LINKS;

    boolean isFound = false;
    final int[] slopes = new int[LINKS];
    /** For each choice one bit for each choice that follows from it. */
    final long[] follows = new long[CHOICES];

    /** Finds the first naming by which all ways seen are hills. */
    void find(Net net, Sights sights) {
      gatherRules(net, sights);
      closeRules();
      isFound = !isRuledOut();
      if (isFound) {
        chooseFirst(sights);
      }
    }

    void gatherRules(Net net, Sights sights) {
      for (int choice = 0; choice < CHOICES; choice++) {
        follows[choice] = 1L << choice;
      }
      for (int way = 0; way < sights.count; way++) {
        long row = sights.rows[way];
        for (int index = 0; index + 2 < Row.size(row); index++) {
          addRule(choiceUp(net, row, index), choiceUp(net, row, index + 1));
        }
      }
    }

    void addRule(int formerUp, int latterUp) {
      if (formerUp < 0 || formerUp >= CHOICES || latterUp < 0 || latterUp >= CHOICES) {
        return;
      }
      follows[latterUp] |= 1L << formerUp;
      follows[formerUp ^ 1] |= 1L << (latterUp ^ 1);
    }

    /** The choice by which a step goes up. */
    int choiceUp(Net net, long row, int index) {
      int from = Row.houseAt(row, index);
      int link = net.linkBetween(from, Row.houseAt(row, index + 1));
      if (link == NONE) {
        return NONE;
      }
      return net.firsts[link] == from ? 2 * link : 2 * link + 1;
    }

    /** Lets follow from each choice what follows from what follows. */
    void closeRules() {
      for (int middle = 0; middle < CHOICES; middle++) {
        for (int choice = 0; choice < CHOICES; choice++) {
          if (leadsTo(choice, middle)) {
            follows[choice] |= follows[middle];
          }
        }
      }
    }

    boolean leadsTo(int choice, int other) {
      return (follows[choice] >> other & 1) == 1;
    }

    boolean isRuledOut() {
      for (int choice = 0; choice < CHOICES; choice += 2) {
        if (leadsTo(choice, choice + 1) && leadsTo(choice + 1, choice)) {
          return true;
        }
      }
      return false;
    }

    /**
     * Each choice is made with all that follows from it, so what is left open is never bound by
     * what is chosen, and no choice has to be taken back.
     */
    void chooseFirst(Sights sights) {
      long chosen = 0;
      for (int link = 0; link < LINKS; link++) {
        int choice = 2 * link;
        boolean isOpen = (chosen >> choice & 3) == 0;
        if (isOpen && sights.isSeen(link)) {
          chosen |= leadsTo(choice, choice + 1) ? follows[choice + 1] : follows[choice];
        }
        slopes[link] = (chosen >> choice & 1) == 1 ? UP : DOWN;
      }
    }

    /** Tries all namings; there must be few links seen. */
    int fewestValleys(Net net, Sights sights) {
      int fewest = sights.count;
      int namings = 1 << Math.min(LINKS_TRIED, Integer.bitCount(sights.links));
      for (int tried = 0; tried < namings && fewest > 0; tried++) {
        takeNaming(sights, tried);
        fewest = sights.valleysBelow(net, slopes, fewest);
      }
      return fewest;
    }

    /** Names the links seen by the bits of a number, the lowest link by the lowest bit. */
    void takeNaming(Sights sights, int bits) {
      int left = bits;
      for (int link = 0; link < LINKS; link++) {
        if (sights.isSeen(link)) {
          slopes[link] = (left & 1) == 0 ? UP : DOWN;
          left >>= 1;
        }
      }
    }
  }

  /** What passes links, told by samples, and what it costs. */
  private static final class Samples {
    final int[] prices = new int[LINKS];
    final int[] commits = new int[LINKS];
    final int[] counts = new int[LINKS];
    /** For each link the greater amount of each sample, the greatest first. */
    final int[][] peaks = new int[LINKS][SAMPLES];
    final int[] sumsForth = new int[LINKS];
    final int[] sumsBack = new int[LINKS];

    int put(int link, int forth, int back) {
      int peak = Math.max(forth, back);
      int at = counts[link];
      while (at > 0 && peaks[link][at - 1] < peak) {
        peaks[link][at] = peaks[link][at - 1];
        at--;
      }
      peaks[link][at] = peak;
      sumsForth[link] += forth;
      sumsBack[link] += back;
      counts[link]++;
      return counts[link];
    }

    int useOf(int link) {
      int count = counts[link];
      return count == 0 ? 0 : peaks[link][count / SAMPLES_FOR_ONE_AWAY];
    }

    int clear(int link) {
      int before = counts[link];
      counts[link] = 0;
      sumsForth[link] = 0;
      sumsBack[link] = 0;
      return before;
    }
  }

  /** The halls, and who is in them. */
  private static final class Halls {
    int count = 0;
    /** For each hall one bit for each house that is in it. */
    final int[] guests = new int[HALLS];

    int put() {
      int hall = count;
      count++;
      return hall;
    }

    boolean let(int hall, int house, boolean isIn) {
      boolean was = hasBit(guests[hall], house);
      guests[hall] = isIn ? guests[hall] | 1 << house : guests[hall] & ~(1 << house);
      return was;
    }

    int lowestWith(int house, int other) {
      for (int hall = 0; hall < count; hall++) {
        if (hasBit(guests[hall], house) && hasBit(guests[hall], other)) {
          return hall;
        }
      }
      return NONE;
    }
  }
}
