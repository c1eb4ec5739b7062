import java.lang.reflect.InvocationTargetException;
import java.lang.reflect.Method;
import java.lang.reflect.Modifier;
import java.util.Arrays;
import java.util.Comparator;
import java.util.Random;
import java.util.TreeMap;

/**
 * Runs of calls, always the same ones, are made on the program and on the oracle at once, and each
 * answer is held against the other one. Each method must have answered and must have thrown each of
 * its exceptions at least once, and some rare states must have been met.
 */
public final class OracleTest {
  private static final int RUNS = 1500;
  private static final int CALLS = 512;

  /** One letter for what each argument is. */
  private static final String[] METHODS = {
    "addHouse d", "addLink hhk", "contract l", "cut lc", "like hhn", "leak hz", "filter hfz",
    "say hbi", "unsay hbi", "sign bhz", "areSettled bi", "rounds bi", "wayLength hbi",
    "wayAt hbix", "rank hbi", "arrives hbt", "catchment hbt", "abroad bi", "harm lbi",
    "weakest bi", "paidWays h", "addWindow h", "look wbi", "seen ", "seenAt yx", "forget ",
    "degree h", "votes lz", "name l", "against ", "areNameable ", "exact l", "fewest ", "wrong ",
    "cone h", "isInCone hh", "share hbi", "terms lpm", "sample lmm", "use l", "bill l",
    "clearSamples l", "quarrels lq", "addHall ", "join ahz", "meet hh", "checksum ", "meanLength ",
    "isSound "};

  /** Calls by which ways change and are seen, so that runs of them alone see many ways. */
  private static final String SEEING =
      "addWindow like cut say unsay look areNameable exact fewest against votes name leak";
  private static final String BUILDING =
      "addHouse addLink like say cut leak filter sign addWindow addHall join";

  private final TreeMap<String, Integer> outcomes = new TreeMap<>();
  private final Method[] ofProgram = new Method[METHODS.length];
  private final Method[] ofOracle = new Method[METHODS.length];
  private int unlike = 0;

  // What holds for one run
  private Random random;
  private final int[] weights = new int[METHODS.length];
  private int houses;
  private int links;
  private int windows;
  private int halls;
  private int blocks;
  private int favouriteLink;
  private int loyalty;
  private int mostHouses;
  private int siblings;
  private int levels;

  public static void main(String[] args) throws Exception {
    OracleTest test = new OracleTest();
    test.findMethods();
    for (int run = 0; run < RUNS; run++) {
      test.oneRun(run);
    }
    test.checkOutcomes();
    System.out.println(RUNS + " runs of " + CALLS + " calls, " + test.unlike + " faults");
    if (test.unlike > 0) {
      System.exit(1);
    }
  }

  private void findMethods() {
    for (int i = 0; i < METHODS.length; i++) {
      String name = METHODS[i].substring(0, METHODS[i].indexOf(' '));
      ofProgram[i] = find(Valleyfree.class, name);
      ofOracle[i] = find(Oracle.class, name);
    }
  }

  private static Method find(Class<?> type, String name) {
    return Arrays.stream(type.getDeclaredMethods())
        .filter(method -> method.getName().equals(name) && !Modifier.isPrivate(method.getModifiers()))
        .min(Comparator.comparing(Method::toString)).orElseThrow();
  }

  private void oneRun(int run) throws Exception {
    random = new Random(run);
    choosePlan(run);
    Valleyfree program = new Valleyfree();
    Oracle oracle = new Oracle();
    StringBuilder story = new StringBuilder();
    int building = 20 + random.nextInt(160);
    int first = 2 + random.nextInt(Math.min(13, mostHouses - 1));
    for (int call = 0; call < CALLS; call++) {
      int which = call < first ? 0 : chooseMethod(call < building);
      Object[] args = chooseArguments(METHODS[which]);
      String told = ofProgram[which].getName() + Arrays.toString(args);
      String got = answer(ofProgram[which], program, args);
      String due = answer(ofOracle[which], oracle, args);
      story.append("  ").append(told).append(" -> ").append(due).append('\n');
      countOutcome(ofProgram[which].getName(), due);
      if (!got.equals(due)) {
        unlike++;
        System.out.println("run " + run + ", call " + call + ": " + told + " answered " + got
            + ", due is " + due);
        if (unlike == 1) {
          System.out.print(story);
        }
        return;
      }
      learn(ofProgram[which].getName(), due);
    }
    if (oracle.isEverUnsettled()) {
      outcomes.merge("a run that ends unsettled", 1, Integer::sum);
    }
  }

  private void choosePlan(int run) {
    houses = 0;
    links = 0;
    windows = 0;
    halls = 0;
    blocks = 1 + random.nextInt(random.nextInt(4) == 0 ? 8 : 3);
    loyalty = run % 3 == 2 ? 1 : 5;
    favouriteLink = random.nextInt(6);
    siblings = random.nextInt(5);
    levels = random.nextInt(5);
    mostHouses = 20;
    if (run % 3 == 1) {
      siblings = 10;
      mostHouses = 4 + random.nextInt(4);
      blocks = 1 + random.nextInt(3);
    }
    for (int i = 0; i < weights.length; i++) {
      boolean isSource = contains("say look like", ofProgram[i].getName());
      weights[i] = (1 + random.nextInt(4)) * (isSource ? 5 : 1);
      if (random.nextInt(12) == 0) {
        weights[i] *= 12;
      }
      if (run % 3 == 2 && ofProgram[i].getName().equals("sample")) {
        weights[i] = 400;
      }
      if (run % 3 == 1) {
        weights[i] = contains(SEEING, ofProgram[i].getName()) ? 6 : 0;
        weights[i] *= contains("look unsay like", ofProgram[i].getName()) ? 8 : 1;
        weights[i] *= contains("say addWindow", ofProgram[i].getName()) ? 3 : 1;
      }
    }
  }

  private int chooseMethod(boolean isBuilding) {
    while (true) {
      int which = random.nextInt(METHODS.length);
      String name = ofProgram[which].getName();
      boolean isClearing = name.equals("forget") || name.equals("clearSamples");
      if (isClearing && random.nextInt(8) != 0) {
        continue;
      }
      if (name.equals("addHouse") && houses >= mostHouses) {
        continue;
      }
      if (isBuilding && name.equals("addLink")) {
        return which;
      }
      boolean isFit = !isBuilding || contains(BUILDING, name);
      if (isFit && random.nextInt(48) < weights[which]) {
        return which;
      }
    }
  }

  private static boolean contains(String names, String name) {
    return Arrays.asList(names.split(" ")).contains(name);
  }

  private Object[] chooseArguments(String method) {
    String kinds = method.substring(method.indexOf(' ') + 1);
    Object[] args = new Object[kinds.length()];
    for (int i = 0; i < args.length; i++) {
      args[i] = chooseArgument(kinds.charAt(i));
    }
    return args;
  }

  private Object chooseArgument(char kind) {
    switch (kind) {
      case 'c': return random.nextInt(3) == 0;
      case 'z': return random.nextInt(3) > 0;
      case 'k': return chooseContract();
      case 'f': return random.nextInt(30) == 0 ? 'x' : random.nextBoolean() ? 'o' : 'l';
      case 'h': return number(0, Math.max(0, houses - 1));
      case 'l': return random.nextInt(5) >= loyalty ? favouriteLink : number(0, Math.max(0, links - 1));
      case 'd': return number(0, random.nextInt(4));
      case 'n': return number(0, 9);
      case 'b': return number(0, blocks - 1);
      case 'i': return random.nextInt(3) == 0 ? -1 : number(-1, 1);
      case 't': return number(0, 1);
      case 'w': return number(0, Math.max(0, windows - 1));
      case 'x': return number(0, 3);
      case 'y': return number(0, 4);
      case 'p': return number(0, 999);
      case 'm': return random.nextInt(3) == 0 ? number(0, 9999) : number(0, 60);
      case 'q': return number(10, 99);
      case 'a': return number(0, Math.max(0, halls - 1));
      default: throw new IllegalArgumentException("no such kind: " + kind);
    }
  }

  private char chooseContract() {
    if (random.nextInt(40) == 0) {
      return 'x';
    }
    int roll = random.nextInt(10);
    return roll < siblings ? 's' : roll < siblings + levels ? 'e' : 'c';
  }

  /** Mostly a number in range, at times one right beside the range, seldom one far off. */
  private int number(int least, int most) {
    switch (random.nextInt(240)) {
      case 0: return least - 1;
      case 1: return most + 1;
      case 2: return random.nextBoolean() ? Integer.MIN_VALUE : Integer.MAX_VALUE;
      case 3: return random.nextInt();
      case 4: return least;
      case 5: return most;
      default: return least + random.nextInt(most - least + 1);
    }
  }

  private String answer(Method method, Object target, Object[] args) throws Exception {
    try {
      Object value = method.invoke(target, args);
      return value.getClass().getSimpleName() + " " + value;
    } catch (InvocationTargetException e) {
      return "throws " + e.getCause().getClass().getSimpleName();
    }
  }

  private void learn(String name, String due) {
    if (due.startsWith("throws")) {
      return;
    }
    switch (name) {
      case "addHouse" -> houses++;
      case "addLink" -> links++;
      case "addWindow" -> windows++;
      case "addHall" -> halls++;
      default -> { }
    }
  }

  private void countOutcome(String name, String due) {
    boolean isSorted = due.startsWith("throws") || due.startsWith("Boolean")
        || due.startsWith("Character");
    outcomes.merge(name + " " + (isSorted ? due : "answers"), 1, Integer::sum);
    if (name.equals("fewest") && !due.startsWith("throws") && !due.equals("Integer 0")) {
      outcomes.merge("fewest above 0", 1, Integer::sum);
    }
  }

  private void checkOutcomes() {
    for (Method method : ofProgram) {
      for (Class<?> thrown : method.getExceptionTypes()) {
        mustBeMet(method.getName() + " throws " + thrown.getSimpleName());
      }
      if (method.getReturnType() == boolean.class) {
        mustBeMet(method.getName() + " Boolean true");
      } else if (method.getReturnType() != char.class) {
        mustBeMet(method.getName() + " answers");
      }
    }
    for (String rare : new String[] {"a run that ends unsettled", "areNameable Boolean false",
        "areSettled Boolean false", "fewest above 0", "exact Character >", "exact Character <",
        "name Character =", "quarrels Boolean false", "rank Character e"}) {
      mustBeMet(rare);
    }
  }

  private void mustBeMet(String outcome) {
    if (!outcomes.containsKey(outcome)) {
      unlike++;
      System.out.println("no run met: " + outcome);
    }
  }
}
