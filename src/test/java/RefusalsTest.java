import java.io.IOException;
import java.lang.reflect.Method;
import java.nio.file.Files;
import java.nio.file.Path;
import java.util.Set;
import java.util.TreeSet;

/**
 * Each "Throws" line of the document by itself, and each two exceptions of one call that can apply
 * at once, where the one that is listed first is thrown. A call that is refused changes nothing.
 */
public final class RefusalsTest {
  private static final String NO_SUCH = "IndexOutOfBoundsException";
  private static final String BAD = "IllegalArgumentException";
  private static final String UNFIT = "UnsupportedOperationException";
  private static final String FULL = "IllegalStateException";
  private static final String NOTHING = "NoSuchElementException";

  private static final String OUT_OF_RANGE = "if a number is out of range";
  private static final String NO_HOUSE = "if there is no such house";
  private static final String NEITHER_HOUSE = "if there is no such house, for either";
  private static final String NO_LINK = "if there is no such link";
  private static final String NO_WAY = "if it has none";
  private static final String NOT_SEEN = "if it is not seen";

  private final Check check = new Check();
  private final Refusal refusal = new Refusal(check);
  /** What was met of the "Throws" lines, and of the pairs of exceptions. */
  private final Set<String> lines = new TreeSet<>();
  private final Set<String> pairs = new TreeSet<>();

  private final Story rich = Story.rich();
  private final Story fullHouses = Story.houses(14);
  private final Story fullLinks = Story.fullLinks('c');
  private final Story fullSayings = Story.sayings(60);
  private final Story fullWindows =
      rich.and("addWindow 0", "addWindow 0", "addWindow 1");
  private final Story fullSights = Story.sights(24);
  private final Story fullSamples = Story.samples(60, 'c');
  private final Story fullHalls = rich.and("addHall", "addHall");
  private final Story unnameable = Story.unnameable();

  public static void main(String[] args) throws IOException {
    RefusalsTest test = new RefusalsTest();
    test.housesAndLinks();
    test.sayings();
    test.ways();
    test.counts();
    test.windows();
    test.names();
    test.conesAndShares();
    test.bills();
    test.halls();
    test.pairsOfHousesAndLinks();
    test.pairsOfWays();
    test.pairsOfWindowsAndNames();
    test.pairsOfBillsAndHalls();
    test.moreThanTwo();
    test.allLinesAreMet();
    test.allPairsAreMet();
    test.check.end();
  }

  // Each "Throws" line by itself

  private void alone(String exception, String condition, Story story, String... calls) {
    for (String call : calls) {
      String name = call.split(" ")[0];
      check.sentence("Throws `" + exception + "` " + condition);
      lines.add(name + " " + exception + " " + condition);
      refusal.refuses(story, call, "throws " + exception);
    }
  }

  private void housesAndLinks() {
    alone(BAD, OUT_OF_RANGE, rich, "addHouse -1", "addHouse 4");
    alone(FULL, "if there are 14", fullHouses, "addHouse 0", "addHouse 3");
    alone(NO_SUCH, NEITHER_HOUSE, rich, "addLink 6 0 c", "addLink 0 6 e", "addLink -1 0 s",
        "addLink 0 -1 c", "addLink 6 7 c");
    alone(BAD, "if both are the same, or there is no such contract", rich, "addLink 0 0 c",
        "addLink 5 5 s", "addLink 0 2 d", "addLink 0 2 #0");
    alone(UNFIT, "if there is a link between them", rich, "addLink 0 1 c", "addLink 1 0 c",
        "addLink 0 1 e", "addLink 1 2 e", "addLink 2 1 s", "addLink 4 2 c");
    alone(FULL, "if there are 30", fullLinks, "addLink 0 13 c", "addLink 13 0 e", "addLink 5 9 s");
    alone(NO_SUCH, NO_LINK, rich, "contract 7", "contract -1", "cut 7 true", "cut 7 false",
        "cut -1 true");
    alone(NO_SUCH, NEITHER_HOUSE, rich, "like 6 0 1", "like 0 6 1", "like -1 0 1", "like 0 -1 1");
    alone(BAD, OUT_OF_RANGE, rich, "like 0 1 10", "like 0 1 -1");
    alone(UNFIT, "if there is no link between them", rich, "like 0 2 1", "like 2 0 1",
        "like 0 0 1", "like 3 3 0");
    alone(NO_SUCH, NO_HOUSE, rich, "leak 6 true", "leak -1 true", "leak 6 false",
        "filter 6 o true", "filter -1 l true");
    alone(BAD, "if there is no such filter", rich, "filter 0 c true", "filter 3 O false",
        "filter 4 #364 false");
  }

  private void sayings() {
    alone(NO_SUCH, NO_HOUSE, rich, "say 6 0 -1", "say -1 0 0", "unsay 6 0 -1", "unsay -1 0 -1",
        "sign 0 6 true", "sign 0 -1 false");
    alone(BAD, OUT_OF_RANGE, rich, "say 1 8 -1", "say 1 -1 -1", "say 1 0 2", "say 1 0 -2",
        "unsay 0 8 -1", "unsay 0 -1 -1", "unsay 0 0 2", "unsay 0 0 -2", "sign 8 0 true",
        "sign -1 1 false");
    alone(UNFIT, "if it says so", rich, "say 0 0 -1", "say 0 0 0", "say 3 1 1");
    alone(FULL, "if 60 sayings are open", fullSayings, "say 13 7 1", "say 4 1 0", "say 0 2 -1");
    alone(NOTHING, "if it does not say so", rich, "unsay 0 0 1", "unsay 1 0 -1", "unsay 0 1 -1");
  }

  private void ways() {
    alone(NO_SUCH, NO_HOUSE, rich, "wayLength 6 0 -1", "wayLength -1 0 -1", "wayAt 6 0 -1 0",
        "wayAt -1 0 -1 0", "rank 6 0 -1", "rank -1 0 0", "arrives 6 0 0", "arrives -1 0 1",
        "catchment 6 0 0", "catchment -1 0 1", "paidWays 6", "paidWays -1");
    alone(BAD, OUT_OF_RANGE, rich, "areSettled 8 0", "areSettled -1 0", "areSettled 0 2",
        "areSettled 0 -2", "rounds 8 0", "rounds -1 0", "rounds 0 2", "rounds 0 -2",
        "wayLength 0 8 -1", "wayLength 0 -1 0", "wayLength 0 0 2", "wayLength 0 0 -2",
        "wayAt 0 8 -1 0", "wayAt 0 -1 -1 0", "wayAt 0 0 2 0", "wayAt 0 0 -2 0", "rank 0 8 -1",
        "rank 0 -1 -1", "rank 0 0 2", "rank 0 0 -2");
    alone(BAD, OUT_OF_RANGE, rich, "arrives 0 8 0", "arrives 0 -1 0", "arrives 0 0 -1",
        "arrives 0 0 2", "catchment 0 8 0", "catchment 0 -1 0", "catchment 0 0 -1",
        "catchment 0 0 2");
    alone(NOTHING, NO_WAY, rich, "wayLength 0 2 -1", "wayLength 5 0 1", "rank 0 2 -1",
        "rank 5 0 1");
    alone(NOTHING, "if it has none, or there is no such index", rich, "wayAt 0 2 -1 0",
        "wayAt 0 0 -1 1", "wayAt 0 0 -1 -1", "wayAt 1 0 -1 2", "wayAt 1 0 -1 MAX",
        "wayAt 1 0 -1 MIN");
    alone(NOTHING, "if it does not arrive", rich, "arrives 0 2 0", "arrives 0 6 1");
  }

  private void counts() {
    alone(BAD, OUT_OF_RANGE, rich, "abroad 8 0", "abroad -1 0", "abroad 0 2", "abroad 0 -2",
        "harm 0 8 0", "harm 0 -1 0", "harm 0 0 2", "harm 0 0 -2", "weakest 8 0", "weakest -1 0",
        "weakest 0 2", "weakest 0 -2");
    alone(NO_SUCH, NO_LINK, rich, "harm 7 0 -1", "harm -1 0 -1");
    alone(NOTHING, "if there is no link by which any would", rich, "weakest 2 -1", "weakest 0 1");
    alone(NOTHING, "if there is no link by which any would",
        Story.houses(3).links("01s 12s 02s").and("say 0 0 -1"), "weakest 0 -1");
  }

  private void windows() {
    alone(NO_SUCH, NO_HOUSE, rich, "addWindow 6", "addWindow -1", "degree 6", "degree -1");
    alone(FULL, "if there are 5", fullWindows, "addWindow 0", "addWindow 5");
    alone(NO_SUCH, "if there is no such window", rich, "look 2 0 -1", "look -1 0 -1");
    alone(BAD, OUT_OF_RANGE, rich, "look 0 8 -1", "look 0 -1 -1", "look 0 0 2", "look 0 0 -2");
    alone(NOTHING, "if the house has no way", rich, "look 0 2 -1", "look 1 6 0");
    alone(FULL, "if it would be added, and 24 are seen", fullSights, "look 1 3 1", "look 1 4 -1");
    alone(NOTHING, "if there is no such way, or index", rich, "seenAt 2 0", "seenAt -1 0",
        "seenAt 0 -1", "seenAt 0 9", "seenAt 1 3");
  }

  private void names() {
    alone(NO_SUCH, NO_LINK, rich, "votes 7 true", "votes -1 false", "name 7", "name -1",
        "exact 7", "exact -1");
    alone(UNFIT, NOT_SEEN, rich, "votes 2 true", "votes 3 false", "name 2", "name 6", "exact 2",
        "exact 3");
    alone(NOTHING, "if there is none", unnameable, "exact 0", "exact 5");
    alone(UNFIT, "if more than 10 links are seen", Story.sights(11), "fewest");
    alone(UNFIT, "if more than 10 links are seen", fullSights, "fewest");
    alone(NOTHING, "if none is seen", rich.and("forget"), "meanLength");
    alone(NOTHING, "if none is seen", new Story(), "meanLength");
  }

  private void conesAndShares() {
    alone(NO_SUCH, NO_HOUSE, rich, "cone 6", "cone -1", "share 6 0 -1", "share -1 0 -1");
    alone(NO_SUCH, NEITHER_HOUSE, rich, "isInCone 6 0", "isInCone -1 0", "isInCone 0 6",
        "isInCone 0 -1", "isInCone 6 6");
    alone(BAD, OUT_OF_RANGE, rich, "share 0 8 0", "share 0 -1 0", "share 0 0 2", "share 0 0 -2");
    alone(NOTHING, "if no other house than origins has a way", rich, "share 0 2 -1");
    alone(NOTHING, "if no other house than origins has a way",
        Story.houses(2).and("say 0 0 -1"), "share 0 0 -1", "share 1 0 -1");
  }

  private void bills() {
    alone(NO_SUCH, NO_LINK, rich, "terms 7 1 1", "terms -1 1 1", "sample 7 1 1", "sample -1 1 1",
        "use 7", "use -1", "bill 7", "bill -1", "clearSamples 7", "clearSamples -1",
        "quarrels 7 10", "quarrels -1 10");
    alone(BAD, OUT_OF_RANGE, rich, "terms 0 1000 1", "terms 0 -1 1", "terms 0 1 10000",
        "terms 0 1 -1", "sample 0 10000 1", "sample 0 -1 1", "sample 0 1 10000", "sample 0 1 -1",
        "quarrels 1 9", "quarrels 1 100");
    alone(UNFIT, "if it is no link 'c'", rich, "terms 1 1 1", "terms 2 1 1", "bill 1", "bill 2");
    alone(FULL, "if there are 60", fullSamples, "sample 0 0 0", "sample 0 9999 9999");
    alone(FULL, "if there are 60", Story.samples(60, 'e'), "sample 0 0 0");
    alone(FULL, "if there are 60", Story.samples(60, 's'), "sample 0 0 0");
    alone(UNFIT, "if it is no link 'e'", rich, "quarrels 0 10", "quarrels 2 99");
  }

  private void halls() {
    alone(FULL, "if there are 4", fullHalls, "addHall");
    alone(NO_SUCH, "if there is no such hall, or house", rich, "join 2 0 true", "join -1 0 true",
        "join 0 6 true", "join 0 -1 false", "join 2 6 false");
    alone(NO_SUCH, NEITHER_HOUSE, rich, "meet 6 0", "meet -1 0", "meet 0 6", "meet 0 -1",
        "meet 6 6");
    alone(NOTHING, "if they do not", rich, "meet 0 1", "meet 1 0", "meet 1 1");
  }

  // Two exceptions that apply at once

  /** The first call has both causes; the second one has the second cause alone. */
  private void both(String first, String second, Story story, String call, String secondAlone) {
    String name = call.split(" ")[0];
    check.sentence("If several exceptions apply, the one that is listed first is thrown.");
    pairs.add(name + " " + first + " " + second);
    refusal.refuses(story, call, "throws " + first);
    check.is("the second cause alone: " + secondAlone,
        Calls.answer(story.told(), secondAlone), "throws " + second);
  }

  /** These two can't apply at once, as the reason tells. */
  private void never(String name, String first, String second, String reason) {
    check.holds("a reason", !reason.isEmpty());
    pairs.add(name + " " + first + " " + second);
  }

  private void pairsOfHousesAndLinks() {
    both(BAD, FULL, fullHouses, "addHouse 4", "addHouse 3");
    both(BAD, FULL, fullHouses, "addHouse -1", "addHouse 0");
    both(NO_SUCH, BAD, rich, "addLink 6 6 c", "addLink 5 5 c");
    both(NO_SUCH, BAD, rich, "addLink 6 0 x", "addLink 2 0 x");
    both(NO_SUCH, BAD, rich, "addLink 0 6 x", "addLink 0 2 x");
    never("addLink", NO_SUCH, UNFIT, "a house that is not there has no link");
    both(NO_SUCH, FULL, fullLinks, "addLink 14 0 c", "addLink 13 0 c");
    both(NO_SUCH, FULL, fullLinks, "addLink 0 -1 c", "addLink 0 13 c");
    both(BAD, UNFIT, rich, "addLink 0 1 x", "addLink 0 1 c");
    both(BAD, UNFIT, rich, "addLink 1 0 x", "addLink 1 0 c");
    both(BAD, FULL, fullLinks, "addLink 0 13 x", "addLink 0 13 c");
    both(BAD, FULL, fullLinks, "addLink 13 13 c", "addLink 13 0 c");
    both(UNFIT, FULL, fullLinks, "addLink 0 1 c", "addLink 0 13 c");
    both(UNFIT, FULL, fullLinks, "addLink 13 12 e", "addLink 13 0 e");
    both(NO_SUCH, BAD, rich, "like 6 0 10", "like 1 0 10");
    both(NO_SUCH, BAD, rich, "like 0 6 -1", "like 0 1 -1");
    both(NO_SUCH, UNFIT, rich, "like 6 2 1", "like 0 2 1");
    both(NO_SUCH, UNFIT, rich, "like 2 -1 1", "like 2 0 1");
    both(BAD, UNFIT, rich, "like 0 2 10", "like 0 2 9");
    both(BAD, UNFIT, rich, "like 0 0 -1", "like 0 0 0");
    both(NO_SUCH, BAD, rich, "filter 6 x true", "filter 5 x true");
    both(NO_SUCH, BAD, rich, "say 6 8 -1", "say 5 8 -1");
    both(NO_SUCH, BAD, rich, "say -1 0 2", "say 0 0 2");
    never("say", NO_SUCH, UNFIT, "a house that is not there says nothing");
    both(NO_SUCH, FULL, fullSayings, "say 14 7 1", "say 13 7 1");
    never("say", BAD, UNFIT, "nobody can say that it has a number out of range");
    both(BAD, FULL, fullSayings, "say 13 8 1", "say 13 7 1");
    both(BAD, FULL, fullSayings, "say 13 7 2", "say 13 7 1");
    both(UNFIT, FULL, fullSayings, "say 0 0 -1", "say 13 7 1");
    both(UNFIT, FULL, fullSayings, "say 3 1 0", "say 4 1 0");
    both(NO_SUCH, BAD, rich, "unsay 6 8 -1", "unsay 0 8 -1");
    both(NO_SUCH, BAD, rich, "unsay -1 0 -2", "unsay 0 0 -2");
    both(NO_SUCH, NOTHING, rich, "unsay 6 0 1", "unsay 0 0 1");
    both(BAD, NOTHING, rich, "unsay 0 8 1", "unsay 0 7 1");
    both(BAD, NOTHING, rich, "unsay 0 0 2", "unsay 0 0 1");
    both(NO_SUCH, BAD, rich, "sign 8 6 true", "sign 8 5 true");
    both(NO_SUCH, BAD, rich, "sign -1 -1 true", "sign -1 0 true");
  }

  private void pairsOfWays() {
    for (String name : new String[] {"wayLength", "rank", "share"}) {
      both(NO_SUCH, BAD, rich, name + " 6 8 0", name + " 0 8 0");
      both(NO_SUCH, BAD, rich, name + " -1 0 2", name + " 0 0 2");
      both(NO_SUCH, NOTHING, rich, name + " 6 2 0", name + " 0 2 0");
      both(BAD, NOTHING, rich, name + " 0 2 2", name + " 0 2 1");
      both(BAD, NOTHING, new Story("addHouse 0"), name + " 0 8 -1", name + " 0 7 -1");
    }
    both(NO_SUCH, BAD, rich, "wayAt 6 8 0 0", "wayAt 5 8 0 0");
    both(NO_SUCH, BAD, rich, "wayAt -1 0 -2 0", "wayAt 0 0 -2 0");
    both(NO_SUCH, NOTHING, rich, "wayAt 6 2 0 0", "wayAt 5 2 0 0");
    both(NO_SUCH, NOTHING, rich, "wayAt 6 0 -1 14", "wayAt 0 0 -1 14");
    both(BAD, NOTHING, rich, "wayAt 0 8 -1 14", "wayAt 0 0 -1 14");
    both(BAD, NOTHING, rich, "wayAt 0 2 2 -1", "wayAt 0 2 1 -1");
    both(NO_SUCH, BAD, rich, "arrives 6 8 0", "arrives 5 8 0");
    both(NO_SUCH, BAD, rich, "arrives 6 0 -1", "arrives 5 0 -1");
    both(NO_SUCH, NOTHING, rich, "arrives 6 2 0", "arrives 5 2 0");
    both(BAD, NOTHING, rich, "arrives 5 2 2", "arrives 5 2 1");
    both(BAD, NOTHING, rich, "arrives 5 2 -1", "arrives 5 2 0");
    both(BAD, NOTHING, rich, "arrives 5 -1 0", "arrives 5 2 0");
    both(NO_SUCH, BAD, rich, "catchment 6 8 0", "catchment 5 8 0");
    both(NO_SUCH, BAD, rich, "catchment -1 0 -1", "catchment 0 0 -1");
    both(NO_SUCH, BAD, rich, "harm 7 8 0", "harm 6 8 0");
    both(NO_SUCH, BAD, rich, "harm -1 0 2", "harm 0 0 2");
    both(BAD, NOTHING, rich, "weakest 8 0", "weakest 2 0");
    both(BAD, NOTHING, new Story(), "weakest 0 2", "weakest 0 1");
  }

  private void pairsOfWindowsAndNames() {
    both(NO_SUCH, FULL, fullWindows, "addWindow 6", "addWindow 5");
    both(NO_SUCH, FULL, fullWindows, "addWindow -1", "addWindow 0");
    both(NO_SUCH, BAD, rich, "look 2 8 0", "look 1 8 0");
    both(NO_SUCH, BAD, rich, "look -1 0 2", "look 0 0 2");
    both(NO_SUCH, NOTHING, rich, "look 2 2 0", "look 1 2 0");
    both(NO_SUCH, FULL, fullSights, "look 4 3 1", "look 1 3 1");
    both(NO_SUCH, FULL, fullSights, "look -1 3 1", "look 1 3 1");
    both(BAD, NOTHING, rich, "look 1 8 0", "look 1 2 0");
    both(BAD, NOTHING, rich, "look 1 2 2", "look 1 2 1");
    both(BAD, FULL, fullSights, "look 1 3 2", "look 1 3 1");
    both(BAD, FULL, fullSights, "look 1 8 1", "look 1 3 1");
    never("look", NOTHING, FULL, "without a way nothing would be added");
    refusal.refuses(fullSights, "look 1 7 1", "throws " + NOTHING);
    for (String name : new String[] {"votes # true", "votes # false", "name #", "exact #"}) {
      both(NO_SUCH, UNFIT, rich, name.replace("#", "7"), name.replace("#", "6"));
      both(NO_SUCH, UNFIT, rich.and("forget"), name.replace("#", "-1"), name.replace("#", "0"));
    }
    both(NO_SUCH, NOTHING, unnameable, "exact 6", "exact 5");
    both(NO_SUCH, NOTHING, unnameable, "exact -1", "exact 0");
    both(UNFIT, NOTHING, unnameable.and("addHouse 0", "addLink 4 0 c"), "exact 6", "exact 5");
  }

  private void pairsOfBillsAndHalls() {
    both(NO_SUCH, BAD, rich, "terms 7 1000 0", "terms 0 1000 0");
    both(NO_SUCH, BAD, rich, "terms -1 0 10000", "terms 0 0 10000");
    both(NO_SUCH, UNFIT, rich, "terms 7 0 0", "terms 6 0 0");
    both(BAD, UNFIT, rich, "terms 1 1000 0", "terms 1 999 0");
    both(BAD, UNFIT, rich, "terms 2 0 -1", "terms 2 0 0");
    both(NO_SUCH, BAD, rich, "sample 7 10000 0", "sample 0 10000 0");
    both(NO_SUCH, BAD, rich, "sample -1 0 -1", "sample 0 0 -1");
    both(NO_SUCH, FULL, fullSamples, "sample 1 0 0", "sample 0 0 0");
    both(NO_SUCH, FULL, fullSamples, "sample -1 0 0", "sample 0 0 0");
    both(BAD, FULL, fullSamples, "sample 0 10000 0", "sample 0 9999 0");
    both(BAD, FULL, fullSamples, "sample 0 0 -1", "sample 0 0 0");
    both(NO_SUCH, UNFIT, rich, "bill 7", "bill 6");
    both(NO_SUCH, BAD, rich, "quarrels 7 9", "quarrels 6 9");
    both(NO_SUCH, BAD, rich, "quarrels -1 100", "quarrels 1 100");
    both(NO_SUCH, UNFIT, rich, "quarrels 7 10", "quarrels 5 10");
    both(BAD, UNFIT, rich, "quarrels 0 9", "quarrels 0 10");
    both(BAD, UNFIT, rich, "quarrels 2 100", "quarrels 2 99");
    both(NO_SUCH, NOTHING, rich, "meet 6 1", "meet 5 1");
    both(NO_SUCH, NOTHING, rich, "meet 1 -1", "meet 1 0");
  }

  /** The first one of three or four. */
  private void moreThanTwo() {
    check.sentence("If several exceptions apply, the one that is listed first is thrown.");
    refusal.refuses(fullLinks, "addLink 14 14 x", "throws " + NO_SUCH);
    refusal.refuses(fullLinks, "addLink 0 1 x", "throws " + BAD);
    refusal.refuses(rich, "like 6 6 10", "throws " + NO_SUCH);
    refusal.refuses(fullSayings, "say 14 8 2", "throws " + NO_SUCH);
    refusal.refuses(rich, "wayAt 6 8 2 14", "throws " + NO_SUCH);
    refusal.refuses(fullSights, "look 5 8 2", "throws " + NO_SUCH);
    refusal.refuses(fullSamples, "sample 1 -1 10000", "throws " + NO_SUCH);
    refusal.refuses(rich, "terms 7 1000 10000", "throws " + NO_SUCH);
    refusal.refuses(rich, "quarrels 7 0", "throws " + NO_SUCH);
  }

  // Whether all was met

  private void allLinesAreMet() throws IOException {
    check.about("the Throws lines of the document");
    String name = "";
    Set<String> due = new TreeSet<>();
    for (String line : Files.readAllLines(Path.of("../shared/DOC.md"))) {
      if (line.startsWith("## Promise ")) {
        name = line.substring(line.indexOf(": ") + 2);
      }
      if (line.startsWith("Throws `")) {
        due.add(name + " " + line.substring(8).replace("`", ""));
      }
    }
    check.holds("they are read", due.size() > 80);
    for (String line : due) {
      check.holds("met: " + line, lines.contains(line));
    }
    for (String line : lines) {
      check.holds("in the document: " + line, due.contains(line));
    }
  }

  private void allPairsAreMet() {
    check.about("pairs of exceptions");
    for (Method method : Calls.face()) {
      Class<?>[] thrown = method.getExceptionTypes();
      for (int i = 0; i < thrown.length; i++) {
        for (int j = i + 1; j < thrown.length; j++) {
          String pair = method.getName() + " " + thrown[i].getSimpleName() + " "
              + thrown[j].getSimpleName();
          check.holds("met: " + pair, pairs.contains(pair));
        }
      }
    }
  }
}
