import java.util.ArrayList;
import java.util.Arrays;
import java.util.HashSet;
import java.util.List;
import java.util.Set;

/**
 * Each argument of each call by itself: all of its range is taken, or its first and last values if
 * the range is long, and what lies right beyond it is refused, as are the least and the greatest
 * int, and changes nothing. The ranges are those of a small world and those of a full one.
 */
public final class RangesTest {
  private static final String NO_SUCH = "throws IndexOutOfBoundsException";
  private static final String BAD = "throws IllegalArgumentException";
  private static final String NOTHING = "throws NoSuchElementException";
  private static final int LONG_RANGE = 100;
  private static final List<String> WORLDLY =
      List.of("house", "link", "window", "hall", "way");

  /** What each argument is; a boolean, which has no range, is told by a dash. */
  private static final String[] KINDS = {
    "addHouse land", "addLink house house contract", "contract link", "cut link -",
    "like house house like", "leak house -", "filter house kind -", "say house block part",
    "unsay house block part", "sign block house -", "areSettled block part", "rounds block part",
    "wayLength house block part", "wayAt house block part index", "rank house block part",
    "arrives house block half", "catchment house block half", "abroad block part",
    "harm link block part", "weakest block part", "paidWays house", "addWindow house",
    "look window block part", "seenAt way index", "degree house", "votes link -", "name link",
    "exact link", "cone house", "isInCone house house", "share house block part",
    "terms link price amount", "sample link amount amount", "use link", "bill link",
    "clearSamples link", "quarrels link ratio", "join hall house -", "meet house house"};

  private final Check check = new Check();
  private final Refusal refusal = new Refusal(check);
  private final Set<String> told = new HashSet<>();

  public static void main(String[] args) {
    RangesTest test = new RangesTest();
    test.smallWorld();
    test.fullWorld();
    test.oneHouse();
    test.characters();
    test.allAreTold();
    test.check.end();
  }

  /** Two houses and one of all the others; what is full or bound is told to a world of its own. */
  private void smallWorld() {
    check.about("ranges of a small world");
    Story pair = Story.houses(2);
    ranges(pair, "addHouse 0", "addLink 0 1 c", "addLink 1 0 c", "addWindow 1");
    Story small = pair.links("01s").and("say 1 0 -1", "say 1 0 0", "say 1 0 1", "say 1 7 1",
        "addWindow 0", "look 0 0 -1", "addHall", "join 0 0 true", "join 0 1 true");
    ranges(small, "contract 0", "cut 0 true", "like 0 1 5", "like 1 0 5", "leak 0 true",
        "filter 0 o true", "filter 1 l true", "say 0 0 -1", "unsay 1 0 -1", "sign 0 0 true",
        "areSettled 0 -1", "rounds 0 0", "wayLength 0 0 -1", "wayAt 0 0 -1 1", "wayAt 1 0 -1 0",
        "rank 0 0 0", "arrives 0 0 1", "catchment 0 0 1", "abroad 0 -1", "harm 0 0 -1",
        "weakest 0 -1", "paidWays 0", "look 0 0 -1", "seenAt 0 1", "degree 0", "votes 0 true",
        "votes 0 false", "name 0", "exact 0", "cone 0", "isInCone 0 1", "share 1 0 -1",
        "sample 0 5 5", "use 0", "clearSamples 0", "join 0 1 true", "meet 0 1");
    ranges(pair.links("01c").and("sample 0 1 1"), "terms 0 5 5", "bill 0", "sample 0 5 5");
    ranges(pair.links("10e").and("sample 0 1 1"), "quarrels 0 10", "sample 0 5 5");
  }

  /** Fourteen houses, thirty links, five windows and four halls. */
  private void fullWorld() {
    check.about("ranges of a full world");
    ranges(Story.houses(13), "addHouse 0");
    ranges(Story.chain(14), "addLink 2 5 c", "addLink 11 8 e", "addWindow 7");
    Story full = Story.fullLinks('s');
    for (int number = 0; number < 24; number++) {
      full = full.and("say " + (number < 12 ? 1 : 12) + Story.number(number));
    }
    full = full.and("addWindow 0", "addWindow 5", "addWindow 5", "addWindow 5", "addWindow 13",
        "look 0 0 -1", "look 4 7 1", "addHall", "addHall", "addHall", "addHall",
        "join 0 0 true", "join 3 13 true");
    ranges(full, "contract 0", "cut 0 true", "like 0 1 5", "like 13 12 5", "leak 0 true",
        "filter 0 o true", "filter 13 l true", "say 0 0 -1", "say 13 7 1", "unsay 1 0 -1",
        "unsay 12 7 1", "sign 0 0 true", "areSettled 0 -1", "rounds 0 0", "wayLength 0 0 -1",
        "wayAt 0 0 -1 1", "wayAt 13 7 1 1", "rank 0 0 0", "arrives 0 0 1", "catchment 1 0 1",
        "abroad 0 -1", "harm 0 0 -1", "weakest 0 -1", "paidWays 0", "look 0 0 -1", "seenAt 0 1",
        "degree 0", "votes 0 true", "votes 29 false", "name 0", "exact 0", "cone 0",
        "isInCone 0 13", "share 1 0 -1", "sample 0 0 0", "use 0", "clearSamples 0",
        "join 0 0 true", "meet 0 0");
    ranges(Story.fullLinks('c'), "terms 0 0 0", "bill 0");
    ranges(Story.fullLinks('e'), "quarrels 0 99");
    ranges(Story.chain(14).and("say 0 0 -1"), "wayAt 13 0 -1 13");
    ranges(Story.sights(24), "seenAt 0 1", "seenAt 12 13", "seenAt 23 3");
  }

  /** There is no link, no window and no hall. */
  private void oneHouse() {
    check.about("ranges of a world of one house");
    empties(Story.houses(1), "contract 0", "cut 0 true", "harm 0 0 -1", "look 0 0 -1",
        "seenAt 0 0", "votes 0 true", "name 0", "exact 0", "terms 0 0 0", "sample 0 0 0", "use 0",
        "bill 0", "clearSamples 0", "quarrels 0 10", "join 0 0 true");
    check.about("ranges of a new object");
    empties(new Story(), "addLink 0 0 c", "like 0 0 0", "leak 0 true", "filter 0 o true",
        "sign 0 0 true", "paidWays 0", "addWindow 0", "degree 0", "cone 0", "isInCone 0 0",
        "meet 0 0", "say 0 0 -1", "unsay 0 0 -1", "wayLength 0 0 -1", "wayAt 0 0 -1 0",
        "rank 0 0 -1", "arrives 0 0 0", "catchment 0 0 0", "share 0 0 -1");
  }

  /** Those arguments alone of which none is in range. */
  private void empties(Story story, String... calls) {
    for (String call : calls) {
      String[] kinds = kindsOf(call);
      int found = 0;
      for (int at = 1; at < kinds.length; at++) {
        if (WORLDLY.contains(kinds[at]) && greatest(story, call, at, kinds[at]) < 0) {
          range(story, call, at, kinds[at]);
          found++;
        }
      }
      check.holds(call + " has such an argument", found > 0);
    }
  }

  private void ranges(Story story, String... calls) {
    for (String call : calls) {
      String[] kinds = kindsOf(call);
      told.add(kinds[0]);
      for (int at = 1; at < kinds.length; at++) {
        if (!List.of("-", "contract", "kind").contains(kinds[at])) {
          range(story, call, at, kinds[at]);
        }
      }
    }
  }

  private static String[] kindsOf(String call) {
    String name = call.split(" ")[0];
    return Arrays.stream(KINDS).map(kinds -> kinds.split(" "))
        .filter(kinds -> kinds[0].equals(name)).findFirst().orElseThrow();
  }

  private void range(Story story, String told, int at, String kind) {
    String call = kind.equals("way") ? with(told, 2, "0") : told;
    int least = kind.equals("part") ? -1 : kind.equals("ratio") ? 10 : 0;
    int greatest = greatest(story, call, at, kind);
    String due = dueBeyond(kind);
    for (int value : values(least, greatest)) {
      String changed = with(call, at, "" + value);
      String got = Calls.answer(story.told(), changed);
      check.holds(changed + ", which is in range, answered " + got, !got.equals(due));
    }
    refusal.refuses(story, with(call, at, "" + (least - 1)), due);
    refusal.refuses(story, with(call, at, "" + (greatest + 1)), due);
    refusal.refuses(story, with(call, at, "MIN"), due);
    refusal.refuses(story, with(call, at, "MAX"), due);
  }

  private static List<Integer> values(int least, int greatest) {
    List<Integer> values = new ArrayList<>();
    for (int value = least; value <= greatest; value++) {
      if (greatest - least < LONG_RANGE || value - least < 2 || greatest - value < 2) {
        values.add(value);
      }
    }
    return values;
  }

  /** Where an index is told, the call bears the last one. */
  private static int greatest(Story story, String call, int at, String kind) {
    switch (kind) {
      case "house": return story.count("addHouse") - 1;
      case "link": return story.count("addLink") - 1;
      case "window": return story.count("addWindow") - 1;
      case "hall": return story.count("addHall") - 1;
      case "way": return story.count("look") - 1;
      case "index": return Integer.parseInt(call.split(" ")[at]);
      case "land": return 3;
      case "like": return 9;
      case "block": return 7;
      case "part": return 1;
      case "half": return 1;
      case "price": return 999;
      case "amount": return 9999;
      case "ratio": return 99;
      default: throw new IllegalArgumentException("no such kind: " + kind);
    }
  }

  private static String dueBeyond(String kind) {
    if (kind.equals("way") || kind.equals("index")) {
      return NOTHING;
    }
    return WORLDLY.contains(kind) ? NO_SUCH : BAD;
  }

  private static String with(String call, int at, String value) {
    String[] words = call.split(" ");
    words[at] = value;
    return String.join(" ", words);
  }

  /** All characters but the letters of the document are refused. */
  private void characters() {
    check.promise(3, "addLink, the contract");
    letters(Story.houses(2), "addLink 0 1 #", "ces");
    check.promise(8, "filter, the kind");
    letters(Story.houses(1), "filter 0 # true", "ol");
  }

  private void letters(Story story, String call, String taken) {
    Valleyfree x = story.told();
    int refused = 0;
    for (char letter = 0; letter < Character.MAX_VALUE; letter++) {
      if (letter % 500 == 0) {
        x = story.told();
      }
      if (taken.indexOf(letter) < 0) {
        String got = Calls.answer(x, call.replace("#", "#" + (int) letter));
        refused += got.equals(BAD) ? 1 : 0;
      }
    }
    check.is("letters refused", refused, 65535 - taken.length());
    refusal.refuses(story, call.replace("#", "#65535"), BAD);
    for (char letter : taken.toCharArray()) {
      String got = Calls.answer(story.told(), call.replace('#', letter));
      check.holds(letter + " answered " + got, !got.startsWith("throws"));
      refusal.refuses(story, call.replace('#', Character.toUpperCase(letter)), BAD);
      refusal.refuses(story, call.replace('#', (char) (letter + 1)), BAD);
      refusal.refuses(story, call.replace('#', (char) (letter - 1)), BAD);
    }
  }

  private void allAreTold() {
    check.about("ranges of all calls");
    for (java.lang.reflect.Method method : Calls.face()) {
      boolean isTold = told.contains(method.getName()) || method.getParameterCount() == 0;
      check.holds(method.getName() + " is told", isTold);
    }
  }
}
