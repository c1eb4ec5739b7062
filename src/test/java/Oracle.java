import java.util.ArrayList;
import java.util.Arrays;
import java.util.Collections;
import java.util.Comparator;
import java.util.HashSet;
import java.util.List;
import java.util.NoSuchElementException;
import java.util.Set;
import java.util.TreeMap;
import java.util.TreeSet;

/**
 * The document a second time, written for slowness and plainness with lists, sets and texts, and
 * without a look at the program, so that both can be held against each other.
 */
final class Oracle {
  private record Link(int first, int second, char contract) {
    boolean joins(int a, int b) {
      return (first == a && second == b) || (first == b && second == a);
    }

    boolean isAt(int house) {
      return first == house || second == house;
    }
  }

  private record Number(int block, int half) {
  }

  private record Sample(int forth, int back) {
  }

  private record Result(List<List<Integer>> ways, int rounds, boolean settled) {
  }

  private final List<Integer> lands = new ArrayList<>();
  private final List<Link> links = new ArrayList<>();
  private final Set<Integer> cutLinks = new HashSet<>();
  private final TreeMap<String, Integer> likes = new TreeMap<>();
  private final Set<Integer> leaking = new HashSet<>();
  private final Set<String> filtering = new HashSet<>();
  private final List<String> sayings = new ArrayList<>();
  private final TreeMap<Integer, Integer> signer = new TreeMap<>();
  private final Set<Integer> signedWithHalves = new HashSet<>();
  private final List<Integer> windows = new ArrayList<>();
  private final List<List<Integer>> seen = new ArrayList<>();
  private final TreeMap<Integer, int[]> terms = new TreeMap<>();
  private final TreeMap<Integer, List<Sample>> samples = new TreeMap<>();
  private final List<Set<Integer>> halls = new ArrayList<>();

  // Houses and links

  int addHouse(int land) {
    range(land, 0, 3);
    if (lands.size() == 14) {
      throw new IllegalStateException();
    }
    lands.add(land);
    return lands.size() - 1;
  }

  int addLink(int first, int second, char contract) {
    house(first);
    house(second);
    if (first == second || "ces".indexOf(contract) < 0) {
      throw new IllegalArgumentException();
    }
    if (between(first, second) != null) {
      throw new UnsupportedOperationException();
    }
    if (links.size() == 30) {
      throw new IllegalStateException();
    }
    links.add(new Link(first, second, contract));
    return links.size() - 1;
  }

  char contract(int link) {
    return link(link).contract;
  }

  boolean cut(int link, boolean is) {
    link(link);
    return is ? !cutLinks.add(link) : cutLinks.remove(link);
  }

  int like(int house, int neighbour, int like) {
    house(house);
    house(neighbour);
    range(like, 0, 9);
    if (between(house, neighbour) == null) {
      throw new UnsupportedOperationException();
    }
    Integer before = likes.put(house + " " + neighbour, like);
    return before == null ? 0 : before;
  }

  boolean leak(int house, boolean is) {
    house(house);
    return is ? !leaking.add(house) : leaking.remove(house);
  }

  boolean filter(int house, char kind, boolean is) {
    house(house);
    if (kind != 'o' && kind != 'l') {
      throw new IllegalArgumentException();
    }
    return is ? !filtering.add(kind + " " + house) : filtering.remove(kind + " " + house);
  }

  // Numbers and ways

  int say(int house, int block, int half) {
    house(house);
    Number number = number(block, half);
    if (says(house, number)) {
      throw new UnsupportedOperationException();
    }
    if (sayings.size() == 60) {
      throw new IllegalStateException();
    }
    sayings.add(house + " " + number);
    return sayers(number);
  }

  int unsay(int house, int block, int half) {
    house(house);
    Number number = number(block, half);
    if (!sayings.remove(house + " " + number)) {
      throw new NoSuchElementException();
    }
    return sayers(number);
  }

  int sign(int block, int house, boolean withHalves) {
    house(house);
    range(block, 0, 7);
    signedWithHalves.remove(block);
    if (withHalves) {
      signedWithHalves.add(block);
    }
    Integer before = signer.put(block, house);
    return before == null ? -1 : before;
  }

  boolean areSettled(int block, int half) {
    return settle(number(block, half)).settled;
  }

  int rounds(int block, int half) {
    return settle(number(block, half)).rounds;
  }

  int wayLength(int house, int block, int half) {
    return wayOf(house, block, half).size();
  }

  int wayAt(int house, int block, int half, int index) {
    List<Integer> way = wayOf(house, block, half);
    if (index < 0 || index >= way.size()) {
      throw new NoSuchElementException();
    }
    return way.get(index);
  }

  char rank(int house, int block, int half) {
    return rankOf(wayOf(house, block, half));
  }

  int arrives(int house, int block, int half) {
    house(house);
    range(half, 0, 1);
    range(block, 0, 7);
    List<List<Integer>> toHalf = settle(new Number(block, half)).ways;
    List<List<Integer>> toBlock = settle(new Number(block, -1)).ways;
    int at = house;
    for (int step = 0; step < 15; step++) {
      List<Integer> way = toHalf.get(at) != null ? toHalf.get(at) : toBlock.get(at);
      if (way == null) {
        throw new NoSuchElementException();
      }
      if (way.size() == 1) {
        return at;
      }
      at = way.get(1);
    }
    throw new NoSuchElementException();
  }

  int catchment(int house, int block, int half) {
    house(house);
    range(half, 0, 1);
    range(block, 0, 7);
    int count = 0;
    for (int from = 0; from < lands.size(); from++) {
      try {
        count += arrives(from, block, half) == house ? 1 : 0;
      } catch (NoSuchElementException e) {
        count += 0;
      }
    }
    return count;
  }

  int abroad(int block, int half) {
    int count = 0;
    for (List<Integer> way : settle(number(block, half)).ways) {
      if (way != null) {
        int land = lands.get(way.get(way.size() - 1));
        boolean leaves = way.stream().anyMatch(house -> lands.get(house) != land);
        count += lands.get(way.get(0)) == land && leaves ? 1 : 0;
      }
    }
    return count;
  }

  int harm(int link, int block, int half) {
    link(link);
    Number number = number(block, half);
    List<List<Integer>> before = settle(number).ways;
    boolean was = cut(link, true);
    List<List<Integer>> after = settle(number).ways;
    cut(link, was);
    int count = 0;
    for (int house = 0; house < lands.size(); house++) {
      count += before.get(house) != null && after.get(house) == null ? 1 : 0;
    }
    return count;
  }

  int weakest(int block, int half) {
    number(block, half);
    int weakest = -1;
    int most = 0;
    for (int link = 0; link < links.size(); link++) {
      int harm = cutLinks.contains(link) ? 0 : harm(link, block, half);
      if (harm > most) {
        weakest = link;
        most = harm;
      }
    }
    if (weakest < 0) {
      throw new NoSuchElementException();
    }
    return weakest;
  }

  int paidWays(int house) {
    house(house);
    int count = 0;
    for (int block = 0; block < 8; block++) {
      List<Integer> way = settle(new Number(block, -1)).ways.get(house);
      count += way != null && rankOf(way) == 'p' ? 1 : 0;
    }
    return count;
  }

  // Windows and names

  int addWindow(int house) {
    house(house);
    if (windows.size() == 5) {
      throw new IllegalStateException();
    }
    windows.add(house);
    return windows.size() - 1;
  }

  int look(int window, int block, int half) {
    if (window < 0 || window >= windows.size()) {
      throw new IndexOutOfBoundsException();
    }
    List<Integer> way = wayOf(windows.get(window), block, half);
    if (way.size() >= 2 && !seen.contains(way)) {
      if (seen.size() == 24) {
        throw new IllegalStateException();
      }
      seen.add(way);
    }
    return seen.size();
  }

  int seen() {
    return seen.size();
  }

  int seenAt(int way, int index) {
    if (way < 0 || way >= seen.size() || index < 0 || index >= seen.get(way).size()) {
      throw new NoSuchElementException();
    }
    return seen.get(way).get(index);
  }

  int forget() {
    int count = seen.size();
    seen.clear();
    return count;
  }

  int degree(int house) {
    house(house);
    int degree = 0;
    for (int link : linksSeen()) {
      degree += links.get(link).isAt(house) ? 1 : 0;
    }
    return degree;
  }

  int votes(int link, boolean isFirst) {
    linkSeen(link);
    int votes = 0;
    for (List<Integer> way : seen) {
      int top = way.stream().max(Comparator.comparingInt(this::degree)
          .thenComparing(Comparator.comparingInt((Integer house) -> way.indexOf(house)).reversed()))
          .get();
      for (int i = 1; i < way.size(); i++) {
        boolean ahead = i <= way.indexOf(top);
        int payer = ahead ? way.get(i - 1) : way.get(i);
        if (links.get(link).joins(way.get(i - 1), way.get(i))) {
          votes += (links.get(link).first == payer) == isFirst ? 1 : 0;
        }
      }
    }
    return votes;
  }

  char name(int link) {
    return "<=>".charAt(1 - Integer.signum(votes(link, true) - votes(link, false)));
  }

  int against() {
    char[] names = new char[links.size()];
    for (int link : linksSeen()) {
      names[link] = name(link);
    }
    return valleys(names);
  }

  boolean areNameable() {
    return firstNaming() != null;
  }

  char exact(int link) {
    linkSeen(link);
    char[] names = firstNaming();
    if (names == null) {
      throw new NoSuchElementException();
    }
    return names[link];
  }

  int fewest() {
    List<Integer> some = new ArrayList<>(linksSeen());
    if (some.size() > 10) {
      throw new UnsupportedOperationException();
    }
    int fewest = seen.size();
    char[] names = new char[links.size()];
    for (int naming = 0; naming < Math.pow(2, some.size()); naming++) {
      for (int i = 0; i < some.size(); i++) {
        names[some.get(i)] = (naming & (1 << i)) != 0 ? '<' : '>';
      }
      fewest = Math.min(fewest, valleys(names));
    }
    return fewest;
  }

  int wrong() {
    int wrong = 0;
    for (int link : linksSeen()) {
      wrong += name(link) != (links.get(link).contract == 'c' ? '<' : '=') ? 1 : 0;
    }
    return wrong;
  }

  // Cones and shares

  int cone(int house) {
    house(house);
    return coneOf(house).size();
  }

  boolean isInCone(int house, int other) {
    house(house);
    house(other);
    return coneOf(house).contains(other);
  }

  float share(int house, int block, int half) {
    house(house);
    Number number = number(block, half);
    int all = 0;
    int with = 0;
    for (List<Integer> way : settle(number).ways) {
      if (way != null && !says(way.get(0), number)) {
        all++;
        with += way.indexOf(house) > 0 ? 1 : 0;
      }
    }
    if (all == 0) {
      throw new NoSuchElementException();
    }
    return (float) with / (float) all;
  }

  // Bills and halls

  int terms(int link, int price, int commit) {
    link(link);
    range(price, 0, 999);
    range(commit, 0, 9999);
    if (links.get(link).contract != 'c') {
      throw new UnsupportedOperationException();
    }
    int[] before = terms.put(link, new int[] {price, commit});
    return before == null ? 0 : before[0];
  }

  int sample(int link, int forth, int back) {
    link(link);
    range(forth, 0, 9999);
    range(back, 0, 9999);
    if (samplesOf(link).size() == 60) {
      throw new IllegalStateException();
    }
    samplesOf(link).add(new Sample(forth, back));
    return samplesOf(link).size();
  }

  int use(int link) {
    link(link);
    List<Integer> amounts = new ArrayList<>();
    for (Sample sample : samplesOf(link)) {
      amounts.add(Math.max(sample.forth, sample.back));
    }
    Collections.sort(amounts);
    int left = amounts.size() - amounts.size() * 5 / 100;
    return left == 0 ? 0 : amounts.get(left - 1);
  }

  int bill(int link) {
    if (link(link).contract != 'c') {
      throw new UnsupportedOperationException();
    }
    int[] both = terms.getOrDefault(link, new int[2]);
    return both[0] * Math.max(use(link), both[1]);
  }

  int clearSamples(int link) {
    link(link);
    int count = samplesOf(link).size();
    samplesOf(link).clear();
    return count;
  }

  boolean quarrels(int link, int ratio) {
    link(link);
    range(ratio, 10, 99);
    if (links.get(link).contract != 'e') {
      throw new UnsupportedOperationException();
    }
    long forth = samplesOf(link).stream().mapToLong(Sample::forth).sum();
    long back = samplesOf(link).stream().mapToLong(Sample::back).sum();
    return forth > back ? 10 * forth > ratio * back : 10 * back > ratio * forth;
  }

  int addHall() {
    if (halls.size() == 4) {
      throw new IllegalStateException();
    }
    halls.add(new HashSet<>());
    return halls.size() - 1;
  }

  boolean join(int hall, int house, boolean is) {
    if (hall < 0 || hall >= halls.size()) {
      throw new IndexOutOfBoundsException();
    }
    house(house);
    return is ? !halls.get(hall).add(house) : halls.get(hall).remove(house);
  }

  int meet(int house, int other) {
    house(house);
    house(other);
    for (Set<Integer> hall : halls) {
      if (hall.containsAll(Arrays.asList(house, other))) {
        return indexOfSame(hall);
      }
    }
    throw new NoSuchElementException();
  }

  // Sums

  long checksum() {
    List<Integer> terms = new ArrayList<>();
    for (int block = 0; block < 8; block++) {
      for (List<Integer> way : settle(new Number(block, -1)).ways) {
        terms.add(way == null ? 0 : way.size());
      }
    }
    for (List<Integer> way : seen) {
      terms.add(way.size());
    }
    for (int link = 0; link < links.size(); link++) {
      terms.add(use(link));
      terms.add(cutLinks.contains(link) ? 1 : 0);
    }
    long sum = 7;
    for (int term : terms) {
      sum = 31 * sum + term;
    }
    return sum;
  }

  double meanLength() {
    if (seen.isEmpty()) {
      throw new NoSuchElementException();
    }
    return (double) seen.stream().mapToInt(List::size).sum() / (double) seen.size();
  }

  boolean isSound() {
    for (int block = 0; block < 8; block++) {
      List<List<Integer>> ways = settle(new Number(block, -1)).ways;
      for (int house = 0; house < ways.size(); house++) {
        List<Integer> way = ways.get(house);
        if (way == null) {
          continue;
        }
        boolean right = way.get(0) == house && new HashSet<>(way).size() == way.size()
            && says(way.get(way.size() - 1), new Number(block, -1));
        if (!right || leaking.isEmpty() && !isHill(stepsByContract(way))) {
          return false;
        }
      }
    }
    char[] names = firstNaming();
    return names == null || valleys(names) == 0;
  }

  // How often a state was met that is rare, so that a test can tell that it was met at all.

  boolean isEverUnsettled() {
    for (int block = 0; block < 8; block++) {
      for (int half = -1; half < 2; half++) {
        if (!settle(new Number(block, half)).settled) {
          return true;
        }
      }
    }
    return false;
  }

  // What the calls share

  private static void range(int value, int least, int most) {
    if (value < least || value > most) {
      throw new IllegalArgumentException();
    }
  }

  private void house(int house) {
    if (house < 0 || house >= lands.size()) {
      throw new IndexOutOfBoundsException();
    }
  }

  private Link link(int link) {
    if (link < 0 || link >= links.size()) {
      throw new IndexOutOfBoundsException();
    }
    return links.get(link);
  }

  private void linkSeen(int link) {
    link(link);
    if (!linksSeen().contains(link)) {
      throw new UnsupportedOperationException();
    }
  }

  private static Number number(int block, int half) {
    range(block, 0, 7);
    range(half, -1, 1);
    return new Number(block, half);
  }

  private boolean says(int house, Number number) {
    return sayings.contains(house + " " + number);
  }

  private int sayers(Number number) {
    int count = 0;
    for (int house = 0; house < lands.size(); house++) {
      count += says(house, number) ? 1 : 0;
    }
    return count;
  }

  private Link between(int a, int b) {
    for (Link link : links) {
      if (link.joins(a, b)) {
        return link;
      }
    }
    return null;
  }

  private boolean pays(int a, int b) {
    Link link = between(a, b);
    return link != null && link.contract == 'c' && link.first == a;
  }

  private boolean isSibling(int a, int b) {
    Link link = between(a, b);
    return link != null && link.contract == 's';
  }

  private List<Integer> wayOf(int house, int block, int half) {
    house(house);
    List<Integer> way = settle(number(block, half)).ways.get(house);
    if (way == null) {
      throw new NoSuchElementException();
    }
    return way;
  }

  private Result settle(Number number) {
    List<List<Integer>> ways = new ArrayList<>(Collections.nCopies(lands.size(), null));
    for (int round = 1; round <= 40; round++) {
      List<List<Integer>> next = new ArrayList<>();
      for (int house = 0; house < lands.size(); house++) {
        next.add(best(house, number, ways));
      }
      if (next.equals(ways)) {
        return new Result(ways, round - 1, true);
      }
      ways = next;
    }
    return new Result(new ArrayList<>(Collections.nCopies(lands.size(), null)), 40, false);
  }

  private List<Integer> best(int house, Number number, List<List<Integer>> ways) {
    if (says(house, number)) {
      return List.of(house);
    }
    List<List<Integer>> choices = new ArrayList<>();
    for (int neighbour = 0; neighbour < lands.size(); neighbour++) {
      Link link = between(house, neighbour);
      List<Integer> way = ways.get(neighbour);
      if (link == null || cutLinks.contains(links.indexOf(link)) || way == null
          || way.contains(house) || !tells(neighbour, house, way) || refuses(house, way, number)) {
        continue;
      }
      List<Integer> whole = new ArrayList<>(List.of(house));
      whole.addAll(way);
      choices.add(whole);
    }
    return choices.stream().min(Comparator
        .comparingInt((List<Integer> way) -> -likes.getOrDefault(house + " " + way.get(1), 0))
        .thenComparingInt(way -> "cep".indexOf(rankOf(way)))
        .thenComparingInt(List::size)
        .thenComparingInt(way -> way.get(1))).orElse(null);
  }

  private boolean tells(int teller, int hearer, List<Integer> way) {
    return rankOf(way) == 'c' || leaking.contains(teller) || pays(hearer, teller)
        || isSibling(teller, hearer);
  }

  private boolean refuses(int house, List<Integer> way, Number number) {
    Integer signed = signer.get(number.block);
    if (filtering.contains("o " + house) && signed != null) {
      if (!way.get(way.size() - 1).equals(signed)) {
        return true;
      }
      if (number.half >= 0 && !signedWithHalves.contains(number.block)) {
        return true;
      }
    }
    return filtering.contains("l " + house) && !pays(house, way.get(0))
        && way.stream().anyMatch(other -> pays(house, other));
  }

  /** The rank of a way follows from its houses: the first step that is to no sibling tells it. */
  private char rankOf(List<Integer> way) {
    for (int i = 1; i < way.size(); i++) {
      if (pays(way.get(i), way.get(i - 1))) {
        return 'c';
      }
      if (pays(way.get(i - 1), way.get(i))) {
        return 'p';
      }
      if (!isSibling(way.get(i - 1), way.get(i))) {
        return 'e';
      }
    }
    return 'c';
  }

  private String stepsByContract(List<Integer> way) {
    StringBuilder steps = new StringBuilder();
    for (int i = 1; i < way.size(); i++) {
      int from = way.get(i - 1);
      int to = way.get(i);
      steps.append(isSibling(from, to) ? "" : pays(from, to) ? "u" : pays(to, from) ? "d" : "l");
    }
    return steps.toString();
  }

  private static boolean isHill(String steps) {
    return steps.matches("u*l?d*");
  }

  private Set<Integer> linksSeen() {
    Set<Integer> some = new TreeSet<>();
    for (List<Integer> way : seen) {
      for (int i = 1; i < way.size(); i++) {
        some.add(links.indexOf(between(way.get(i - 1), way.get(i))));
      }
    }
    return some;
  }

  /** The steps of a way seen by names; a link without a name (0) is told as a question mark. */
  private String stepsByName(List<Integer> way, char[] names) {
    StringBuilder steps = new StringBuilder();
    for (int i = 1; i < way.size(); i++) {
      Link link = between(way.get(i - 1), way.get(i));
      char name = names[links.indexOf(link)];
      boolean forth = link.first == way.get(i - 1);
      steps.append(name == 0 ? '?' : name == '=' ? 'l' : (name == '<') == forth ? 'u' : 'd');
    }
    return steps.toString();
  }

  private int valleys(char[] names) {
    int count = 0;
    for (List<Integer> way : seen) {
      count += isHill(stepsByName(way, names)) ? 0 : 1;
    }
    return count;
  }

  private char[] firstNaming() {
    char[] names = new char[links.size()];
    return nameFrom(new ArrayList<>(linksSeen()), 0, names) ? names : null;
  }

  private boolean nameFrom(List<Integer> some, int at, char[] names) {
    for (List<Integer> way : seen) {
      if (stepsByName(way, names).contains("du")) {
        return false;
      }
    }
    if (at == some.size()) {
      return true;
    }
    for (char name : new char[] {'<', '>'}) {
      names[some.get(at)] = name;
      if (nameFrom(some, at + 1, names)) {
        return true;
      }
    }
    names[some.get(at)] = 0;
    return false;
  }

  private Set<Integer> coneOf(int house) {
    Set<Integer> reached = new HashSet<>();
    List<Integer> waiting = new ArrayList<>(List.of(house));
    while (!waiting.isEmpty()) {
      int next = waiting.remove(0);
      if (!reached.add(next)) {
        continue;
      }
      for (int other = 0; other < lands.size(); other++) {
        Link link = between(next, other);
        boolean up = link != null && !cutLinks.contains(links.indexOf(link));
        if (up && (pays(other, next) || isSibling(other, next))) {
          waiting.add(other);
        }
      }
    }
    return reached;
  }

  private List<Sample> samplesOf(int link) {
    return samples.computeIfAbsent(link, key -> new ArrayList<>());
  }

  private int indexOfSame(Set<Integer> hall) {
    for (int i = 0; i < halls.size(); i++) {
      if (halls.get(i) == hall) {
        return i;
      }
    }
    return -1;
  }
}
