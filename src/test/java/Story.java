import java.util.ArrayList;
import java.util.Arrays;
import java.util.List;

/** A row of calls, none of which throws: what an object went through before a test looks at it. */
final class Story {
  private final List<String> calls = new ArrayList<>();

  Story(String... calls) {
    this.calls.addAll(Arrays.asList(calls));
  }

  /** This story and what comes then; this one stays as it is. */
  Story and(String... more) {
    Story longer = new Story(more);
    longer.calls.addAll(0, calls);
    return longer;
  }

  /** Links like "01c 12e": the first house, the second one, the contract; two houses, a letter. */
  Story links(String links) {
    Story longer = and();
    for (String link : links.split(" ")) {
      longer.calls.add("addLink " + digit(link, 0) + " " + digit(link, 1) + " " + link.charAt(2));
    }
    return longer;
  }

  /** Likes like "013": the house, the neighbour, the like; two houses, a number. */
  Story likes(String likes) {
    Story longer = and();
    for (String like : likes.split(" ")) {
      longer.calls.add("like " + digit(like, 0) + " " + digit(like, 1) + " " + digit(like, 2));
    }
    return longer;
  }

  private static int digit(String text, int at) {
    return Character.digit(text.charAt(at), 16);
  }

  int size() {
    return calls.size();
  }

  int count(String method) {
    return (int) calls.stream().filter(call -> call.split(" ")[0].equals(method)).count();
  }

  /** A new object that went through this story. */
  Valleyfree told() {
    Valleyfree x = new Valleyfree();
    for (String call : calls) {
      String got = Calls.answer(x, call);
      if (got.startsWith("throws")) {
        throw new IllegalStateException("a story breaks off at " + call + ", which " + got);
      }
    }
    return x;
  }

  // Stories that several tests tell

  static Story houses(int count) {
    Story story = new Story();
    for (int house = 0; house < count; house++) {
      story.calls.add("addHouse 0");
    }
    return story;
  }

  /** Houses in a row, each one the sibling of the next one. */
  static Story chain(int count) {
    Story story = houses(count);
    for (int house = 1; house < count; house++) {
      story.calls.add("addLink " + (house - 1) + " " + house + " s");
    }
    return story;
  }

  /** Fourteen houses and 29 links of one contract, none of them between 12 and 13, or 0 and 13. */
  static Story links29(char contract) {
    Story story = houses(14);
    for (int house = 0; house < 12; house++) {
      story.calls.add("addLink " + house + " " + (house + 1) + " " + contract);
    }
    for (int house = 0; house < 12; house++) {
      story.calls.add("addLink " + house + " " + (house + 2) + " " + contract);
    }
    for (int house = 0; house < 5; house++) {
      story.calls.add("addLink " + house + " " + (house + 3) + " " + contract);
    }
    return story;
  }

  static Story fullLinks(char contract) {
    return links29(contract).and("addLink 12 13 " + contract);
  }

  /** The block and the half of a number, the numbers being counted from 0 to 23. */
  static String number(int count) {
    return " " + count / 3 + " " + (count % 3 - 1);
  }

  /** Sayings of fourteen houses without links: all of them say the first number, and so on. */
  static Story sayings(int count) {
    Story story = houses(14);
    for (int saying = 0; saying < count; saying++) {
      story.calls.add("say " + saying % 14 + number(saying / 14));
    }
    return story;
  }

  /** Fourteen siblings in a row, each one saying that it has the number of its own number. */
  static Story speakers() {
    Story story = chain(14);
    for (int house = 0; house < 14; house++) {
      story.calls.add("say " + house + number(house));
    }
    return story.and("addWindow 0", "addWindow 13", "addWindow 0", "addWindow 1");
  }

  /** Looks, among speakers, at that many ways: 13 at the window 0, then others at the window 1. */
  Story looks(int count) {
    Story longer = and();
    for (int way = 0; way < count; way++) {
      longer.calls.add(way < 13 ? "look 0" + number(way + 1) : "look 1" + number(way - 13));
    }
    return longer;
  }

  static Story sights(int count) {
    return speakers().looks(count);
  }

  static Story samples(int count, char contract) {
    Story story = houses(2).links("01" + contract);
    for (int sample = 0; sample < count; sample++) {
      story.calls.add("sample 0 0 0");
    }
    return story;
  }

  /** Each house says that it has the number of its own number; the first ones have windows. */
  Story windows(int windows) {
    Story longer = and();
    for (int house = 0; house < count("addHouse"); house++) {
      longer.calls.add("say " + house + number(house));
      if (house < windows) {
        longer.calls.add("addWindow " + house);
      }
    }
    return longer;
  }

  /**
   * Looks at ways like "012": from a window at the first house by a house that it likes for a while
   * to the last one, which speaks by its own number.
   */
  Story lookAt(String ways) {
    Story longer = and();
    for (String way : ways.split(" ")) {
      String liking = "like " + digit(way, 0) + " " + digit(way, 1);
      longer.calls.add(liking + " 9");
      longer.calls.add("look " + digit(way, 0) + number(digit(way, 2)));
      longer.calls.add(liking + " 0");
    }
    return longer;
  }

  /** Four siblings: all ways of two steps are seen, each one way round, and there is no naming. */
  static Story unnameable() {
    return houses(4).links("01s 02s 03s 12s 13s 23s").windows(4)
        .lookAt("021 031 012 032 013 023 102 132 103 123 203 213");
  }

  /** The siblings 0 to 4, each at a window, and 5 to 10, linked to all of those. */
  static Story crossing() {
    Story story = houses(11);
    for (int between = 5; between < 11; between++) {
      for (int house = 0; house < 5; house++) {
        story.calls.add("addLink " + between + " " + house + " s");
      }
    }
    return story.windows(5);
  }

  /** All thirty links are seen, as by each of 5 to 10 there go ways from 0 to 1, 2 to 3, 4 to 0. */
  static Story allLinksSeen() {
    return crossing().lookAt("051 061 071 081 091 0a1 253 263 273 283 293 2a3")
        .lookAt("450 460 470 480 490 4a0");
  }

  /** Six houses with a little of everything, and nothing that is full. */
  static Story rich() {
    return new Story("addHouse 0", "addHouse 1", "addHouse 2", "addHouse 3", "addHouse 0",
        "addHouse 0")
        .links("01c 12e 23s 43c 41c 05s 24e").likes("014 109 431")
        .and("leak 2 true", "filter 3 o true", "filter 4 l true", "filter 1 o true", "cut 6 true",
            "say 0 0 -1", "say 0 0 0", "say 3 1 1", "say 1 7 -1", "say 1 7 0", "say 5 7 1",
            "sign 0 0 false", "sign 7 1 true",
            "addWindow 5", "addWindow 2", "look 0 7 -1", "look 1 0 -1",
            "terms 0 7 50", "terms 3 9 1",
            "sample 0 19 3", "sample 3 40 8", "sample 1 10 35", "sample 2 0 9999",
            "addHall", "addHall", "join 0 0 true", "join 1 0 true", "join 1 3 true");
  }
}
