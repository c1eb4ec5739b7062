import java.util.Arrays;
import java.util.List;

/**
 * The empty state and the full one: a new object, one of bare houses, the last house, link, saying,
 * window, way seen, sample and hall that is taken, and the first one that is refused; and what a
 * full world takes, as it adds nothing.
 */
public final class LimitsTest {
  private static final String NO_SUCH = "throws IndexOutOfBoundsException";
  private static final String UNFIT = "throws UnsupportedOperationException";
  private static final String FULL = "throws IllegalStateException";
  private static final String NOTHING = "throws NoSuchElementException";

  private final Check check = new Check();

  public static void main(String[] args) {
    LimitsTest test = new LimitsTest();
    test.newObject();
    test.bareHouses();
    test.bareLinks();
    test.mostHouses();
    test.mostLinks();
    test.mostSayings();
    test.mostWindows();
    test.mostWaysSeen();
    test.mostSamples();
    test.mostHalls();
    test.allFull();
    test.lastCall();
    test.check.end();
  }

  /** The answer of a new object that went through the story. */
  private void gives(Story story, String call, String due) {
    check.is(call, Calls.answer(story.told(), call), due);
  }

  private void all(Story story, String due, String... calls) {
    for (String call : calls) {
      gives(story, call, due);
    }
  }

  private static String[] at(int house, String... calls) {
    return Arrays.stream(calls).map(call -> call.replace("#", "" + house)).toArray(String[]::new);
  }

  private void newObject() {
    check.sentence("Creates a world without houses, windows and halls.");
    Story empty = new Story();
    all(empty, NO_SUCH, "addLink 0 1 c", "contract 0", "cut 0 true", "like 0 1 1", "leak 0 true",
        "filter 0 o true", "say 0 0 -1", "unsay 0 0 -1", "sign 0 0 true", "wayLength 0 0 -1",
        "wayAt 0 0 -1 0", "rank 0 0 -1", "arrives 0 0 0", "catchment 0 0 0", "harm 0 0 -1",
        "paidWays 0", "addWindow 0", "look 0 0 -1", "degree 0", "votes 0 true", "name 0",
        "exact 0", "cone 0", "isInCone 0 0", "share 0 0 -1", "terms 0 0 0", "sample 0 0 0",
        "use 0", "bill 0", "clearSamples 0", "quarrels 0 10", "join 0 0 true", "meet 0 0");
    all(empty, NOTHING, "weakest 0 -1", "weakest 7 1", "seenAt 0 0", "meanLength");
    all(empty, "0", "addHouse 0", "addHouse 3", "addHall", "rounds 0 -1", "rounds 7 1",
        "abroad 0 -1", "abroad 7 1", "seen", "forget", "against", "fewest", "wrong");
    all(empty, "true", "areSettled 0 -1", "areSettled 7 1", "areNameable", "isSound");
    check.sentence("Returns 7 at first");
    gives(empty, "checksum", "7");
    gives(empty.and("addHall", "addHall"), "checksum", "7");
  }

  private void bareHouses() {
    check.about("houses without links, sayings, windows and halls");
    for (int count : new int[] {1, 14}) {
      Story bare = Story.houses(count);
      int last = count - 1;
      all(bare, NO_SUCH, "addLink 0 " + count + " c", "contract 0", "cut 0 false", "harm 0 0 0",
          "look 0 0 0", "votes 0 false", "name 0", "exact 0", "terms 0 0 0", "sample 0 0 0",
          "use 0", "bill 0", "clearSamples 0", "quarrels 0 99", "join 0 0 true");
      all(bare, NOTHING, at(last, "unsay # 0 -1", "wayLength # 0 -1", "wayAt # 0 -1 0",
          "rank # 0 -1", "arrives # 0 0", "weakest 0 0", "seenAt 0 0", "share # 0 -1",
          "meet # #", "meanLength"));
      all(bare, UNFIT, at(last, "like # 0 0", "like 0 # 9"));
      all(bare, "0", at(last, "catchment # 0 0", "abroad 0 -1", "rounds 0 0", "paidWays #",
          "addWindow #", "addHall", "seen", "forget", "degree #", "against", "fewest", "wrong"));
      all(bare, "1", at(last, "cone #", "say # 7 1"));
      all(bare, "false", at(last, "leak # true", "filter # l true", "filter # o true"));
      all(bare, "true", at(last, "isInCone # #", "areSettled 0 0", "areNameable", "isSound"));
      all(bare, "-1", at(last, "sign 0 # true"));
    }
    long sum = 7;
    for (int block = 0; block < 8; block++) {
      sum *= 31;
    }
    gives(Story.houses(1), "checksum", "" + sum);
  }

  private void bareLinks() {
    check.about("a link without samples, terms, cuts and sights");
    for (String contract : new String[] {"c", "e", "s"}) {
      Story pair = Story.houses(2).links("01" + contract);
      gives(pair, "contract 0", contract);
      all(pair, "false", "cut 0 true", "cut 0 false");
      all(pair, "0", "use 0", "clearSamples 0", "like 0 1 9", "like 1 0 9", "harm 0 0 -1",
          "degree 0");
      all(pair, "1", "sample 0 0 0");
      all(pair, UNFIT, "votes 0 true", "name 0", "exact 0", "addLink 1 0 e");
      all(pair, contract.equals("c") ? "0" : UNFIT, "terms 0 999 9999", "bill 0");
      all(pair, contract.equals("e") ? "false" : UNFIT, "quarrels 0 10", "quarrels 0 99");
    }
  }

  private void mostHouses() {
    check.sentence("At most 14 houses are numbered from 0, each of a land, 0 to 3.");
    for (int count = 0; count < 14; count++) {
      gives(Story.houses(count), "addHouse " + count % 4, "" + count);
    }
    Story full = Story.houses(14);
    all(full, FULL, "addHouse 0", "addHouse 3");
    gives(full, "leak 13 true", "false");
    gives(full, "leak 14 true", NO_SUCH);
    for (int land = 0; land < 4; land++) {
      for (int other = 0; other < 4; other++) {
        Story row = new Story("addHouse " + land, "addHouse " + other, "addHouse " + land)
            .links("01s 12s").and("say 0 0 -1");
        gives(row, "abroad 0 -1", land == other ? "0" : "1");
      }
    }
  }

  private void mostLinks() {
    check.sentence("At most 30 links are numbered from 0, each between two houses, at most one for"
        + " two, of a contract");
    gives(Story.houses(2), "addLink 0 1 c", "0");
    gives(Story.houses(14), "addLink 13 0 e", "0");
    for (char contract : new char[] {'c', 'e', 's'}) {
      all(Story.links29(contract), "29", "addLink 12 13 c", "addLink 13 0 e", "addLink 0 13 s");
      Story full = Story.fullLinks(contract);
      all(full, FULL, "addLink 0 13 c", "addLink 13 0 e", "addLink 5 9 s");
      all(full, UNFIT, "addLink 0 1 c", "addLink 1 0 e", "addLink 13 12 s", "addLink 12 13 c");
      Story cut = full.and("cut 0 true", "cut 29 true");
      all(cut, FULL, "addLink 0 13 c");
      all(cut, UNFIT, "addLink 0 1 c", "addLink 1 0 s", "addLink 12 13 c");
      gives(full, "contract 29", "" + contract);
      gives(full, "contract 30", NO_SUCH);
    }
    gives(Story.links29('s').and("addLink 13 0 s", "say 0 0 -1"), "wayLength 13 0 -1", "2");
    check.sentence("A link is up at first, and can be cut and joined.");
    Story pair = Story.houses(2).links("01c").and("say 0 0 -1");
    gives(pair, "wayLength 1 0 -1", "2");
    gives(pair, "cut 0 true", "false");
    gives(pair.and("cut 0 true"), "wayLength 1 0 -1", NOTHING);
    gives(pair.and("cut 0 true"), "cut 0 true", "true");
    gives(pair.and("cut 0 true", "cut 0 true"), "cut 0 false", "true");
    gives(pair.and("cut 0 true", "cut 0 false"), "cut 0 false", "false");
    gives(pair.and("cut 0 true", "cut 0 false"), "wayLength 1 0 -1", "2");
  }

  private void mostSayings() {
    check.sentence("There are the blocks 0 to 7, each with the halves 0 and 1.");
    for (int number = 0; number < 24; number++) {
      Story others = Story.houses(1);
      for (int other = 0; other < 24; other++) {
        others = other == number ? others : others.and("say 0" + Story.number(other));
      }
      gives(others, "wayLength 0" + Story.number(number), NOTHING);
      gives(others, "say 0" + Story.number(number), "1");
    }
    check.sentence("several may say so");
    gives(Story.sayings(13), "say 13 0 -1", "14");
    gives(Story.sayings(14), "unsay 0 0 -1", "13");
    gives(Story.sayings(1), "unsay 0 0 -1", "0");
    check.sentence("At most 60 such sayings are open at once.");
    gives(Story.sayings(59), "say 3 1 0", "4");
    Story full = Story.sayings(60);
    all(full, FULL, "say 4 1 0", "say 13 7 1", "say 0 2 -1");
    all(full, UNFIT, "say 0 0 -1", "say 3 1 0");
    gives(full, "unsay 3 1 0", "3");
    gives(full, "unsay 4 1 0", NOTHING);
    gives(full, "sign 0 3 true", "-1");
    Story again = full.and("unsay 0 0 -1");
    gives(again, "say 4 1 0", "5");
    gives(again, "say 0 0 -1", "14");
    gives(again.and("say 0 0 -1"), "say 4 1 0", FULL);
    gives(again.and("say 4 1 0"), "say 0 0 -1", FULL);
    Story less = Story.sayings(60);
    for (int house = 0; house < 14; house++) {
      less = less.and("unsay " + house + " 0 -1");
    }
    gives(less.and("say 13 7 1"), "say 12 7 1", "2");
  }

  private void mostWindows() {
    check.sentence("At most 5 are numbered from 0, each at a house.");
    Story story = Story.houses(2).links("01s").and("say 0 0 -1", "say 1 7 1");
    for (int window = 0; window < 5; window++) {
      gives(story, "look " + window + " 0 -1", NO_SUCH);
      gives(story, "addWindow 0", "" + window);
      story = story.and("addWindow 1");
      gives(story, "look " + window + " 7 1", "0");
      gives(story, "look " + window + " 0 -1", "1");
    }
    all(story, FULL, "addWindow 0", "addWindow 1");
    gives(story, "look 5 0 -1", NO_SUCH);
    gives(story.and("look 4 0 -1", "forget"), "addWindow 0", FULL);
  }

  private void mostWaysSeen() {
    check.sentence("it is added to the ways seen, of which there are at most 24, if it has two"
        + " houses or more, and was not seen");
    Story none = Story.speakers();
    all(none, "0", "look 0 0 -1", "look 1 4 0", "look 3 0 0", "seen");
    all(none, "1", "look 0 0 0", "look 1 3 1", "look 3 0 -1");
    gives(none.and("look 0 0 0"), "look 0 0 0", "1");
    gives(none.and("look 0 0 0"), "look 2 0 0", "1");
    gives(none.and("look 0 0 0", "say 1 7 1"), "look 0 7 1", "1");
    gives(none.and("look 0 0 0"), "look 3 0 -1", "2");
    gives(none.and("look 0 0 0"), "look 0 0 1", "2");
    gives(Story.sights(22), "look 1 3 -1", "23");
    gives(Story.sights(23), "look 1 3 0", "24");
    Story full = Story.sights(24);
    gives(full, "seen", "24");
    all(full, FULL, "look 1 3 1", "look 1 4 -1", "look 3 0 -1");
    all(full, "24", "look 0 0 0", "look 2 4 0", "look 1 0 -1", "look 1 3 0", "look 0 0 -1",
        "look 1 4 0", "look 3 0 0", "forget");
    gives(full, "look 1 7 1", NOTHING);
    gives(full, "seenAt 23 0", "13");
    gives(full, "seenAt 23 3", "10");
    gives(full, "seenAt 24 0", NOTHING);
    check.sentence("Forgets all ways seen.");
    Story forgotten = full.and("forget");
    all(forgotten, "0", "seen", "forget", "against", "fewest", "wrong", "degree 0",
        "look 0 0 -1");
    all(forgotten, NOTHING, "seenAt 0 0", "meanLength");
    all(forgotten, UNFIT, "name 0", "votes 0 true", "exact 12");
    all(forgotten, "1", "look 0 0 0", "look 1 3 1");
    all(forgotten.looks(24), FULL, "look 1 3 1");
    gives(forgotten.looks(24), "seen", "24");
    gives(forgotten.looks(23), "look 1 3 0", "24");
  }

  private void mostSamples() {
    check.sentence("To each link samples are told, 60 at most, each of an amount forth and one"
        + " back, 0 to 9999.");
    for (char contract : new char[] {'c', 'e', 's'}) {
      gives(Story.samples(0, contract), "sample 0 9999 9999", "1");
      gives(Story.samples(59, contract), "sample 0 0 0", "60");
      Story full = Story.samples(60, contract);
      all(full, FULL, "sample 0 0 0", "sample 0 9999 9999");
      gives(full, "use 0", "0");
      gives(full, "clearSamples 0", "60");
      gives(full.and("clearSamples 0"), "clearSamples 0", "0");
      gives(full.and("clearSamples 0"), "sample 0 1 0", "1");
    }
    Story two = Story.houses(3).links("01c 12e");
    for (int count = 0; count < 60; count++) {
      two = two.and("sample 0 9 0");
    }
    gives(two, "sample 0 0 0", FULL);
    gives(two, "sample 1 0 0", "1");
    gives(two.and("sample 1 7 0"), "clearSamples 1", "1");
    gives(two.and("sample 1 7 0", "clearSamples 0"), "use 1", "7");
    gives(two.and("sample 1 7 0", "clearSamples 1"), "use 0", "9");
    gives(two, "terms 0 999 9999", "0");
  }

  private void mostHalls() {
    check.sentence("At most 4 are numbered from 0; houses join and leave them.");
    Story story = Story.houses(14);
    for (int hall = 0; hall < 4; hall++) {
      gives(story, "join " + hall + " 0 true", NO_SUCH);
      gives(story, "addHall", "" + hall);
      story = story.and("addHall");
      gives(story, "join " + hall + " 0 true", "false");
      gives(story, "join " + hall + " 0 false", "false");
    }
    gives(story, "addHall", FULL);
    gives(story, "join 4 0 true", NO_SUCH);
    Story crowd = story;
    for (int house = 0; house < 14; house++) {
      crowd = crowd.and("join 3 " + house + " true");
    }
    all(crowd, "3", "meet 0 13", "meet 13 0", "meet 7 7", "meet 13 13");
    gives(crowd, "join 3 13 true", "true");
    gives(crowd.and("join 3 13 true"), "join 3 13 false", "true");
    gives(crowd.and("join 3 13 false"), "meet 0 13", NOTHING);
    gives(crowd.and("join 3 13 false"), "meet 0 12", "3");
    gives(crowd.and("join 3 13 false"), "join 3 13 false", "false");
    gives(crowd, "addHall", FULL);
  }

  /** Where all is full, what adds nothing is taken still. */
  private void allFull() {
    check.about("a world that is full of all");
    Story full = Story.speakers().and("addWindow 5");
    for (int house = 0; house < 12; house++) {
      full = full.and("addLink " + house + " " + (house + 2) + " e")
          .and("cut " + (13 + house) + " true");
    }
    for (int house = 0; house < 5; house++) {
      full = full.and("addLink " + house + " " + (house + 4) + " c")
          .and("cut " + (25 + house) + " true");
    }
    full = full.looks(24);
    for (int saying = 0; saying < 46; saying++) {
      full = full.and("say " + saying % 14 + Story.number(23 - saying / 14));
    }
    for (int count = 0; count < 60; count++) {
      full = full.and("sample 29 5 6");
    }
    full = full.and("addHall", "addHall", "addHall", "addHall");
    all(full, FULL, "addHouse 0", "addLink 0 13 c", "say 13 3 1", "addWindow 0", "look 3 0 -1",
        "sample 29 0 0", "addHall");
    all(full, "24", "seen", "look 0 0 0", "look 0 0 -1", "forget");
    all(full, "0", "like 4 8 9", "terms 29 999 9999", "use 0", "clearSamples 28", "harm 29 0 -1");
    all(full, UNFIT, "addLink 8 4 c", "say 0 0 -1", "say 3 6 1");
    gives(full, "cut 29 false", "true");
    gives(full, "sample 28 1 1", "1");
    gives(full, "use 29", "6");
    gives(full, "clearSamples 29", "60");
    gives(full, "unsay 0 7 1", "13");
    gives(full, "wayLength 13 0 -1", "14");
    gives(full, "join 3 13 true", "false");
    gives(full, "sign 7 13 false", "-1");
    gives(full, "filter 13 l true", "false");
  }

  /** The last one of the 512 calls that an object is used for answers as it should. */
  private void lastCall() {
    check.sentence("An object is used for at most 512 calls after it has been made");
    Story story = Story.chain(14).and("say 0 0 -1");
    String[] calls = new String[511 - story.size()];
    Arrays.fill(calls, "weakest 0 -1");
    Story long511 = story.and(calls);
    check.is("calls", long511.size(), 511);
    for (String call : List.of("wayLength 13 0 -1", "arrives 13 0 1", "addWindow 13",
        "addLink 0 13 c", "sample 12 9999 1", "say 13 7 1", "addHall")) {
      gives(long511, call, Calls.answer(story.told(), call));
    }
    gives(long511, "wayLength 13 0 -1", "14");
    gives(long511, "addHouse 0", FULL);
  }
}
