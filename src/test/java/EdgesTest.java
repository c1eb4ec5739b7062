import java.math.BigInteger;
import java.util.ArrayList;
import java.util.List;

/** The sentences under "Terms", and those on what calls return, at their edges. */
public final class EdgesTest {
  private static final String UNFIT = "throws UnsupportedOperationException";
  private static final String NOTHING = "throws NoSuchElementException";

  private final Check check = new Check();

  public static void main(String[] args) {
    EdgesTest test = new EdgesTest();
    test.questions();
    test.likes();
    test.ranksAndLengths();
    test.tellings();
    test.roundsAtTheLimit();
    test.numberOfRounds();
    test.originFilter();
    test.lockFilter();
    test.traffic();
    test.countsOfWays();
    test.cuts();
    test.degreesAndTops();
    test.namesByVotes();
    test.rightNames();
    test.hills();
    test.exactNames();
    test.fewestValleys();
    test.cones();
    test.shares();
    test.uses();
    test.bills();
    test.quarrels();
    test.halls();
    test.sums();
    test.check.end();
  }

  private void gives(Story story, String call, String due) {
    check.is(call, Calls.answer(story.told(), call), due);
  }

  private void all(Story story, String due, String... calls) {
    for (String call : calls) {
      gives(story, call, due);
    }
  }

  /** The way of a house, a digit for each house; "none" for none. */
  private void way(Story story, int house, String number, String due) {
    Valleyfree x = story.told();
    StringBuilder got = new StringBuilder();
    String next = Calls.answer(x, "wayAt " + house + " " + number + " 0");
    for (int index = 1; !next.startsWith("throws"); index++) {
      got.append(Integer.toHexString(Integer.parseInt(next)));
      next = Calls.answer(x, "wayAt " + house + " " + number + " " + index);
    }
    check.is("way of " + house + " to " + number, got.length() == 0 ? "none" : got.toString(), due);
    check.is("its length", Calls.answer(x, "wayLength " + house + " " + number),
        due.equals("none") ? NOTHING : "" + due.length());
  }

  /** What was asked before changes no answer. */
  private void questions() {
    check.sentence("Nothing is promised beyond the answers and state changes described above");
    Refusal refusal = new Refusal(check);
    Story quarrel = Story.houses(3).links("01s 02s 12s").likes("121 211")
        .and("say 0 0 1", "say 0 0 0", "say 1 0 -1", "say 2 7 1");
    for (Story story : List.of(new Story(), Story.rich(), Story.unnameable(), Story.sights(24),
        Story.allLinksSeen(), slow(9), slow(10), slow(11), quarrel)) {
      refusal.answersAlike(story);
    }
    // The second way comes after there were names for the first one.
    Story later = Story.houses(4).links("01s 02s 32s").windows(1).and("look 0 0 0", "areNameable",
        "exact 0", "look 0 1 -1");
    names(later, "<<<");
    all(later, "true", "isSound");
    check.sentence("at first nobody having one");
    gives(Story.chain(5).and("say 0 0 -1", "rounds 0 -1"), "rounds 0 -1", "5");
    gives(slow(10).and("rounds 0 -1"), "rounds 0 -1", "39");
    gives(slow(10).and("rounds 0 -1", "like 8 5 0", "rounds 0 -1"), "like 8 5 1", "0");
    gives(slow(10).and("rounds 0 -1", "like 8 5 0", "rounds 0 -1", "like 8 5 1"), "rounds 0 -1",
        "39");
    gives(slow(11).and("cut 13 true", "rounds 0 -1", "cut 13 false"), "rounds 0 -1", "40");
    gives(quarrel.and("like 1 2 0", "rounds 0 1", "like 1 2 1"), "areSettled 0 1", "false");
  }

  // Likes and ways

  private void likes() {
    check.sentence("A house likes a neighbour by 0 to 9, 0 at first.");
    Story two = Story.houses(4).links("01s 02s 13s 23s").and("say 3 0 -1");
    all(two, "0", "like 0 1 9", "like 1 0 9", "like 3 2 0");
    gives(two.likes("019"), "like 0 1 0", "9");
    gives(two.likes("019"), "like 1 0 0", "0");
    gives(two.likes("019 010"), "like 0 1 0", "0");
    way(two, 0, "0 -1", "013");
    way(two.likes("021"), 0, "0 -1", "023");
    way(two.likes("018 029"), 0, "0 -1", "023");
    way(two.likes("019 029"), 0, "0 -1", "013");
    way(two.likes("019 028"), 0, "0 -1", "013");
    way(two.likes("029 020"), 0, "0 -1", "013");
    way(two.likes("209 319 329"), 0, "0 -1", "013");
  }

  private void ranksAndLengths() {
    check.sentence("The best one is from the neighbour that is liked most, then of the better rank,"
        + " 'c' ahead of 'e' ahead of 'p', then the shorter one, then from the neighbour with the"
        + " lowest number.");
    Story far = Story.houses(14).links("10c 21c 32c 43c 54c 65c 76c 87c 98c a9c bac cbc dcc")
        .and("say 13 0 -1");
    way(far.links("0dc"), 0, "0 -1", "0123456789abcd");
    way(far.links("0de"), 0, "0 -1", "0123456789abcd");
    way(far.links("0ds"), 0, "0 -1", "0d");
    way(far.links("d0c"), 0, "0 -1", "0d");
    way(far.links("0dc").likes("0d1"), 0, "0 -1", "0d");
    way(far.links("0de").likes("0d1"), 0, "0 -1", "0d");
    way(far.links("0dc").likes("011 0d1"), 0, "0 -1", "0123456789abcd");
    way(far.links("0dc 0be"), 0, "0 -1", "0123456789abcd");
    way(far.links("0dc 0be").and("cut 0 true"), 0, "0 -1", "0bcd");
    way(far.links("0cs"), 0, "0 -1", "0cd");
    way(far.links("02s"), 0, "0 -1", "023456789abcd");
    Story tie = Story.houses(14).links("0ds 0cs dbs cbs").and("say 11 0 -1");
    way(tie, 0, "0 -1", "0cb");
    way(tie.and("cut 1 true"), 0, "0 -1", "0db");
    way(tie.and("say 0 0 -1").likes("0d9"), 0, "0 -1", "0");
    // By 1 there is the best rank at once, by 2 a worse one on a longer way.
    for (String worse : new String[] {"02c", "02e"}) {
      Story two = Story.houses(4).links("10c 23s 31s " + worse).likes("231")
          .and("say 1 0 -1");
      way(two, 0, "0 -1", "01");
      way(two.likes("021"), 0, "0 -1", "0231");
      way(two.likes("018 029"), 0, "0 -1", "0231");
      way(two.likes("019 029"), 0, "0 -1", "01");
      way(two.likes("019 028"), 0, "0 -1", "01");
    }
    check.sentence("A way is a row of houses from one to one that says that it has the number");
    way(Story.chain(14).and("say 0 0 -1"), 13, "0 -1", "dcba9876543210");
    way(Story.chain(14).and("say 0 7 1"), 13, "7 1", "dcba9876543210");
    way(Story.chain(14).and("say 13 7 1"), 0, "7 1", "0123456789abcd");
    way(Story.chain(14).and("say 0 7 1"), 0, "7 1", "0");
    way(Story.chain(14).and("say 0 7 1"), 13, "7 0", "none");
    way(Story.chain(14).and("say 0 7 1"), 13, "7 -1", "none");
    way(Story.houses(1).and("say 0 0 -1", "unsay 0 0 -1"), 0, "0 -1", "none");
  }

  private void tellings() {
    check.sentence("A house tells its way to all if its rank is 'c', or the house leaks; otherwise"
        + " to those alone who pay it, and to siblings.");
    for (String from : new String[] {"01c", "01e", "10c", "01s"}) {
      String rank = from.equals("01e") ? "e" : from.equals("10c") ? "p" : "c";
      for (String to : new String[] {"12c", "21c", "12e", "12s"}) {
        Story row = Story.houses(3).links(from + " " + to).and("say 0 0 -1");
        gives(row, "rank 1 0 -1", rank);
        boolean isTold = rank.equals("c") || to.equals("21c") || to.equals("12s");
        way(row, 2, "0 -1", isTold ? "210" : "none");
        way(row.and("leak 1 true"), 2, "0 -1", "210");
        way(row.and("leak 0 true", "leak 2 true"), 2, "0 -1", isTold ? "210" : "none");
        String rankOfTwo = to.equals("12s") ? rank : to.equals("12e") ? "e" : "";
        rankOfTwo += to.equals("12c") ? "c" : to.equals("21c") ? "p" : "";
        gives(row.and("leak 1 true"), "rank 2 0 -1", rankOfTwo);
      }
    }
  }

  // Rounds

  /**
   * Waves of ways that follow one another for 38 rounds among nine siblings; each house more, at
   * the end of a row that hangs on 6, changes one round later.
   */
  private static Story slow(int houses) {
    Story story = Story.houses(houses)
        .links("78s 64s 85s 52s 14s 23s 26s 16s 81s 03s 71s 01s").likes("781 641 851 261 181 171");
    String[] more = {"69s", "9as", "abs"};
    for (int house = 9; house < houses; house++) {
      story = story.links(more[house - 9]);
    }
    return story.and("say 0 0 -1");
  }

  private void roundsAtTheLimit() {
    check.sentence("Ways are settled as a round changes none; if the 40th round still changes one,"
        + " nobody has a way, origins neither.");
    gives(slow(9), "rounds 0 -1", "38");
    Story last = slow(10);
    gives(last, "rounds 0 -1", "39");
    gives(last, "areSettled 0 -1", "true");
    way(last, 9, "0 -1", "964185230");
    way(last, 0, "0 -1", "0");
    gives(last, "arrives 9 0 0", "0");
    gives(last, "catchment 0 0 1", "10");
    Story late = slow(11);
    gives(late, "areSettled 0 -1", "false");
    for (int house = 0; house < 11; house++) {
      way(late, house, "0 -1", "none");
      all(late, NOTHING, "rank " + house + " 0 -1", "arrives " + house + " 0 0",
          "share " + house + " 0 -1");
      all(late, "0", "catchment " + house + " 0 0", "paidWays " + house);
    }
    all(late, "0", "abroad 0 -1", "harm 0 0 -1", "harm 13 0 -1");
    all(late, NOTHING, "weakest 0 -1");
    all(late, "true", "isSound", "areSettled 0 0", "areSettled 1 -1");
    gives(late.and("addWindow 0"), "look 0 0 -1", NOTHING);
    check.sentence("Returns how many, 40 if they are not settled.");
    gives(late, "rounds 0 -1", "40");
    gives(slow(12), "rounds 0 -1", "40");
    gives(slow(12), "areSettled 0 -1", "false");
    Story mended = late.and("cut 13 true");
    gives(mended, "rounds 0 -1", "39");
    way(mended, 9, "0 -1", "964185230");
    way(mended, 10, "0 -1", "none");
    way(mended.and("cut 13 false"), 9, "0 -1", "none");
    // The cut of 9a mends the ways, and the cut of 69 as well; but nobody had one.
    all(mended.and("cut 13 false"), "0", "harm 12 0 -1", "harm 13 0 -1");
  }

  private void numberOfRounds() {
    check.sentence("Returns in how many rounds ways to a number change.");
    gives(new Story(), "rounds 0 -1", "0");
    gives(Story.chain(14), "rounds 0 -1", "0");
    for (int count = 1; count < 14; count++) {
      gives(Story.chain(count).and("say 0 3 1"), "rounds 3 1", "" + count);
      gives(Story.chain(count).and("say 0 3 1"), "rounds 3 0", "0");
    }
    gives(Story.chain(14).and("say 6 0 -1"), "rounds 0 -1", "8");
    Story quarrel = Story.houses(3).links("01s 02s 12s").and("say 0 0 1");
    gives(quarrel.likes("121"), "rounds 0 1", "3");
    gives(quarrel.likes("121 211"), "rounds 0 1", "40");
    gives(quarrel.likes("121 211"), "areSettled 0 1", "false");
    gives(quarrel.likes("121 211"), "areSettled 0 0", "true");
    gives(quarrel.likes("121 211"), "areSettled 0 -1", "true");
    way(quarrel.likes("121 211"), 0, "0 1", "none");
    way(quarrel.likes("121 211").and("say 0 0 0"), 0, "0 1", "none");
    gives(quarrel.likes("121 211").and("say 1 0 1"), "rounds 0 1", "2");
  }

  // Filters

  private void originFilter() {
    check.sentence("it refuses a way whose origin is not that for which the block is signed, if it"
        + " is signed, and one to a half of a block that is signed without its halves");
    Story pair = Story.houses(3).links("01s").and("filter 1 o true", "say 0 0 -1", "say 0 0 0",
        "say 0 0 1");
    refusedNumbers(pair, "");
    refusedNumbers(pair.and("sign 0 0 true"), "");
    refusedNumbers(pair.and("sign 0 0 false"), "0 1");
    refusedNumbers(pair.and("sign 0 1 true"), "-1 0 1");
    refusedNumbers(pair.and("sign 0 1 false"), "-1 0 1");
    refusedNumbers(pair.and("sign 0 2 true"), "-1 0 1");
    refusedNumbers(pair.and("sign 1 2 false"), "");
    refusedNumbers(pair.and("sign 7 2 true"), "");
    refusedNumbers(pair.and("sign 0 2 false", "filter 1 o false"), "");
    refusedNumbers(pair.and("sign 0 2 false", "filter 1 o false", "filter 1 l true"), "");
    refusedNumbers(pair.and("sign 0 2 false", "filter 1 o false", "filter 0 o true"), "");
    check.sentence("anew in place of what was");
    refusedNumbers(pair.and("sign 0 2 false", "sign 0 0 true"), "");
    refusedNumbers(pair.and("sign 0 0 true", "sign 0 0 false"), "0 1");
    refusedNumbers(pair.and("sign 0 0 false", "sign 0 0 true"), "");
    refusedNumbers(pair.and("sign 0 0 true", "sign 0 1 true"), "-1 0 1");
    check.sentence("Returns the house for which it was signed, -1 for none.");
    gives(pair, "sign 0 0 true", "-1");
    gives(pair.and("sign 0 0 true"), "sign 0 2 false", "0");
    gives(pair.and("sign 0 0 true"), "sign 0 0 true", "0");
    gives(pair.and("sign 0 0 true", "sign 0 2 true"), "sign 0 0 true", "2");
    gives(pair.and("sign 0 0 true"), "sign 1 2 false", "-1");
    gives(pair.and("sign 7 2 true"), "sign 7 0 false", "2");
    Story last = Story.chain(2).and("filter 1 o true", "say 0 7 -1", "say 0 7 1", "sign 7 0 false");
    way(last, 1, "7 -1", "10");
    way(last, 1, "7 1", "none");
    check.sentence("otherwise those of neighbours");
    Story own = Story.chain(2).and("filter 0 o true", "filter 0 l true", "say 0 0 0",
        "sign 0 1 false");
    way(own, 0, "0 0", "0");
    way(own, 1, "0 0", "10");
  }

  /** The house 1 has a way to all three numbers of block 0, but to those that it refuses. */
  private void refusedNumbers(Story story, String refused) {
    for (String half : new String[] {"-1", "0", "1"}) {
      way(story, 0, "0 " + half, "0");
      way(story, 1, "0 " + half, List.of(refused.split(" ")).contains(half) ? "none" : "10");
    }
  }

  private void lockFilter() {
    check.sentence("it refuses a way, from a neighbour that it does not pay, that has a house which"
        + " it pays, also along a link that is cut");
    for (String from : new String[] {"01s", "01e", "10c", "01c"}) {
      for (String other : new String[] {"03c", "30c", "03e", "03s"}) {
        boolean isRefused = other.equals("03c") && !from.equals("01c");
        Story row = Story.houses(5).links(other + " " + from + " 13s").and("cut 0 true",
            "say 3 0 -1");
        way(row, 0, "0 -1", "013");
        way(row.and("filter 0 l true"), 0, "0 -1", isRefused ? "none" : "013");
        way(row.and("filter 0 o true"), 0, "0 -1", "013");
        way(row.and("filter 0 l true", "filter 0 l false"), 0, "0 -1", "013");
        way(row.and("filter 1 l true", "filter 3 l true"), 0, "0 -1", "013");
        // The house that is paid is in the middle of the way.
        Story through = row.links("34s").and("unsay 3 0 -1", "say 4 0 -1", "filter 0 l true");
        way(through, 0, "0 -1", isRefused ? "none" : "0134");
      }
    }
    // From the one that is paid, though it pays another one in that way.
    way(Story.houses(3).links("01c 02c 12s").and("say 2 0 -1", "cut 1 true", "filter 0 l true"), 0,
        "0 -1", "012");
    way(Story.houses(3).links("01c 12s").and("say 1 0 -1", "filter 0 l true"), 0, "0 -1", "01");
  }

  // Traffic and what is counted of ways

  private void traffic() {
    check.sentence("It arrives where that way is a house's own one, within 14 steps; it does not"
        + " arrive if a house has no way.");
    Story block = Story.chain(14).and("say 0 0 -1");
    for (int house = 0; house < 14; house++) {
      all(block, "0", "arrives " + house + " 0 0", "arrives " + house + " 0 1");
      all(block, NOTHING, "arrives " + house + " 1 0", "arrives " + house + " 7 1");
    }
    all(block, "14", "catchment 0 0 0", "catchment 0 0 1");
    all(block, "0", "catchment 13 0 0", "catchment 0 1 0");
    gives(block.and("cut 12 true"), "arrives 13 0 0", NOTHING);
    gives(block.and("cut 12 true"), "catchment 0 0 0", "13");
    check.sentence("each time to the next one of the way that the house has to that half, or,"
        + " without one, to the whole block");
    Story far = block.and("say 0 0 1", "sign 0 0 false", "filter 7 o true");
    way(far, 7, "0 1", "none");
    way(far, 13, "0 1", "none");
    way(far, 6, "0 1", "6543210");
    all(far, "0", "arrives 13 0 1", "arrives 6 0 1", "arrives 0 0 1");
    gives(far, "catchment 0 0 1", "14");
    Story short6 = block.and("say 6 0 1", "sign 0 0 false", "filter 7 o true");
    all(short6, "6", "arrives 13 0 1", "arrives 7 0 1", "arrives 6 0 1", "arrives 0 0 1");
    all(short6, "0", "arrives 13 0 0", "arrives 6 0 0", "catchment 0 0 1", "catchment 13 0 1");
    all(short6, "14", "catchment 6 0 1", "catchment 0 0 0");
    Story back = short6.and("unsay 0 0 -1", "say 13 0 -1", "sign 0 13 false");
    all(back, "13", "arrives 7 0 1", "arrives 13 0 1", "arrives 0 0 0");
    all(back, "6", "arrives 6 0 1", "arrives 0 0 1");
    all(back, "7", "catchment 13 0 1", "catchment 6 0 1");
  }

  private void countsOfWays() {
    check.sentence("Returns to how many blocks a house has ways of the rank 'p'.");
    Story paying = Story.houses(3).links("01c 20c");
    for (int block = 0; block < 8; block++) {
      gives(paying, "paidWays 0", "" + block);
      paying = paying.and("say 1 " + block + " -1", "say 1 " + block + " 0");
    }
    gives(paying, "paidWays 0", "8");
    gives(paying, "paidWays 2", "8");
    gives(paying, "paidWays 1", "0");
    gives(paying.and("say 0 7 -1"), "paidWays 0", "7");
    gives(paying.and("cut 0 true"), "paidWays 0", "0");
    check.sentence("from a house in the land of their origin, have a house of another land");
    Story lands = new Story("addHouse 3", "addHouse 0", "addHouse 3", "addHouse 0")
        .links("01s 12s 23s");
    gives(lands.and("say 0 0 -1"), "abroad 0 -1", "1");
    gives(lands.and("say 0 7 1"), "abroad 7 1", "1");
    gives(lands.and("say 0 7 1"), "abroad 7 0", "0");
    gives(lands.and("say 1 0 -1"), "abroad 0 -1", "1");
    gives(lands.and("say 2 0 -1"), "abroad 0 -1", "1");
    gives(lands.and("say 0 0 -1", "say 2 0 -1"), "abroad 0 -1", "0");
    gives(lands.and("say 0 0 -1", "say 1 0 -1"), "abroad 0 -1", "1");
    gives(lands.and("say 0 0 -1", "say 1 0 -1", "cut 2 true"), "abroad 0 -1", "0");
  }

  private void cuts() {
    check.sentence("Returns how many houses that have a way to a number would have none if a link"
        + " were cut.");
    Story row = Story.chain(14).and("say 0 0 -1", "say 13 7 1");
    for (int link = 0; link < 13; link++) {
      gives(row, "harm " + link + " 0 -1", "" + (13 - link));
      gives(row, "harm " + link + " 7 1", "" + (link + 1));
      gives(row, "harm " + link + " 7 0", "0");
      gives(row.and("cut 3 true"), "harm " + link + " 0 -1", "" + Math.max(0, 3 - link));
    }
    Story last = Story.links29('s').and("addLink 12 13 s", "say 0 0 -1");
    gives(last, "harm 29 0 -1", "0");
    gives(last.and("cut 23 true"), "harm 29 0 -1", "1");
    gives(last.and("cut 23 true"), "weakest 0 -1", "29");
    check.sentence("Returns the link that is up by whose cut most houses would have no way any"
        + " more.");
    gives(row, "weakest 0 -1", "0");
    gives(row, "weakest 7 1", "12");
    gives(row, "weakest 7 0", NOTHING);
    gives(row.and("cut 0 true"), "weakest 0 -1", NOTHING);
    gives(row.and("cut 0 true"), "weakest 7 1", "12");
    check.sentence("Returns the link, of like ones the lowest.");
    gives(row.and("say 7 0 -1"), "weakest 0 -1", "7");
    gives(Story.chain(3).and("say 1 0 -1"), "weakest 0 -1", "0");
    gives(Story.chain(3).and("say 1 0 -1", "cut 0 true"), "weakest 0 -1", "1");
    gives(Story.chain(3).and("say 1 0 -1", "cut 1 true"), "weakest 0 -1", "0");
  }

  // Names

  private void degreesAndTops() {
    check.sentence("A link is seen if a way seen has both its houses beside each other.");
    Story triangle = Story.houses(3).links("01s 12s 02s").likes("011")
        .and("say 2 0 -1", "addWindow 0", "look 0 0 -1");
    gives(triangle, "name 2", UNFIT);
    all(triangle, "1", "degree 0", "degree 2");
    gives(triangle, "degree 1", "2");
    check.sentence("The degree of a house is how many links at it are seen.");
    Story star = Story.houses(14).and("addWindow 0");
    for (int leaf = 1; leaf < 14; leaf++) {
      star = star.and("addLink 0 " + leaf + " s", "say " + leaf + Story.number(leaf));
    }
    for (int leaf = 1; leaf < 14; leaf++) {
      gives(star, "degree 0", "" + (leaf - 1));
      gives(star, "degree " + leaf, "0");
      star = star.and("look 0" + Story.number(leaf));
      gives(star, "degree " + leaf, "1");
    }
    gives(star, "degree 0", "13");
    check.sentence("In each way seen the top is the house with the greatest degree, the first of"
        + " like ones.");
    Story row = Story.houses(6).links("01s 12s 23s 34s 25s").and("addWindow 0", "addWindow 2",
        "say 1 0 -1", "say 3 0 0", "say 2 0 1", "say 5 1 -1");
    // 01: the first one of two.
    votes(row.and("look 0 0 -1"), 0, 0, 1);
    // 0123: 1, the first one of two in the middle.
    votes(row.and("look 0 0 0"), 0, 1, 0);
    votes(row.and("look 0 0 0"), 1, 0, 1);
    votes(row.and("look 0 0 0"), 2, 0, 1);
    // 012, as 25 and 23 are seen, too: 2, the last one.
    Story end = row.and("look 0 0 1", "look 1 1 -1", "look 1 0 0");
    votes(end, 0, 1, 0);
    votes(end, 1, 1, 0);
    votes(end, 2, 0, 1);
    votes(end, 4, 0, 1);
    votes(end.and("forget", "look 0 0 1"), 1, 0, 1);
    // A house of a greater degree that is in another way is no top of this one.
    Story apart = Story.houses(6).links("01s 02s 03s 45s").windows(5)
        .and("look 0 0 0", "look 0 0 1", "look 0 1 -1", "look 4 1 1");
    gives(apart, "degree 0", "3");
    votes(apart, 3, 0, 1);
  }

  private void votes(Story story, int link, int first, int second) {
    gives(story, "votes " + link + " true", "" + first);
    gives(story, "votes " + link + " false", "" + second);
  }

  private void namesByVotes() {
    check.sentence("A link that is seen is named '<' if more votes are that its first house pays,"
        + " '>' if more are that its second one pays, '=' otherwise.");
    for (String link : new String[] {"01s", "10s"}) {
      boolean isTurned = link.equals("10s");
      String firstPays = isTurned ? ">" : "<";
      String secondPays = isTurned ? "<" : ">";
      // By 01 and 012 the house 1 pays 0, by 10 and 103 it is the other way.
      Story story = Story.houses(4).links(link + " 12s 03s").and("addWindow 0", "addWindow 1",
          "say 1 0 -1", "say 0 0 0", "say 2 0 1", "say 3 1 -1");
      gives(story.and("look 0 0 -1"), "name 0", secondPays);
      gives(story.and("look 1 0 0"), "name 0", firstPays);
      gives(story.and("look 0 0 -1", "look 1 0 0"), "name 0", "=");
      Story three = story.and("look 0 0 -1", "look 1 0 0", "look 0 0 1", "look 0 1 -1");
      gives(three, "votes 0 " + !isTurned, "1");
      gives(three, "votes 0 " + isTurned, "2");
      gives(three, "name 0", secondPays);
      gives(three.and("look 1 1 -1"), "votes 0 " + !isTurned, "2");
      gives(three.and("look 1 1 -1"), "name 0", "=");
    }
  }

  private void rightNames() {
    check.sentence("Returns how many links seen are not named by votes as they are: '<' is right"
        + " for 'c', '=' for others.");
    for (String contract : new String[] {"c", "e", "s"}) {
      boolean isPaying = contract.equals("c");
      for (String link : new String[] {"01", "10"}) {
        // Who looks is the top, and is paid.
        Story pair = Story.houses(2).links(link + contract).and("addWindow 0", "addWindow 1",
            "say 0 0 0", "say 1 0 1");
        boolean isTurned = link.equals("10");
        gives(pair, "wrong", "0");
        gives(pair.and("look 0 0 1"), "wrong", isPaying && isTurned ? "0" : "1");
        gives(pair.and("look 1 0 0"), "wrong", isPaying && !isTurned ? "0" : "1");
        gives(pair.and("look 0 0 1", "look 1 0 0"), "wrong", isPaying ? "1" : "0");
        gives(pair.and("look 0 0 1", "forget"), "wrong", "0");
      }
    }
    gives(Story.allLinksSeen(), "wrong", "24");
  }

  /** A row of siblings, seen from both its ends. */
  private static Story bothWays(int houses) {
    int last = houses - 1;
    return Story.chain(houses).and("addWindow 0", "addWindow " + last, "say " + last + " 0 0",
        "say 0 0 1", "look 0 0 0", "look 1 0 1");
  }

  private void hills() {
    check.sentence("A way is a hill if, step by step, it goes up to one who is paid, then at most"
        + " once level, then down.");
    gives(bothWays(2), "against", "0");
    // Up, down, for 1 is the top of both.
    gives(bothWays(3), "against", "0");
    // Up, level, down.
    gives(bothWays(4), "name 1", "=");
    gives(bothWays(4), "against", "0");
    // Up, level, level, down.
    gives(bothWays(5), "against", "2");
    gives(bothWays(6), "against", "2");
    gives(bothWays(14), "against", "2");
    // 012 and 210 go level twice, 02 goes down.
    Story levels = Story.chain(3).links("02s").and("addWindow 0", "addWindow 2", "say 2 0 0",
        "say 0 0 1", "look 0 0 0", "like 0 1 1", "like 2 1 1", "look 0 0 0", "look 1 0 1");
    gives(levels, "against", "2");
    // 4x0 goes down, then level; the others go level, then down, or down alone.
    gives(Story.allLinksSeen(), "against", "6");
    // By 5 then go: 04 level, up; 23 down, level; 40 down, level; 30 level, level; 01 and 41 down.
    Story more = Story.allLinksSeen().lookAt("054 451 350");
    gives(more, "name 0", "=");
    gives(more, "name 1", ">");
    gives(more, "name 2", "<");
    gives(more, "name 3", "=");
    gives(more, "name 4", "<");
    gives(more, "against", "9");
    gives(new Story(), "against", "0");
    // There and back by each of 5 to 10, so that all links are level.
    Story level = Story.crossing().lookAt("051 061 071 081 091 0a1 253 263 273 283 293 2a3")
        .lookAt("150 160 170 180 190 1a0 352 362 372 382 392 3a2");
    gives(level, "seen", "24");
    gives(level, "against", "24");
    gives(level, "wrong", "0");
  }

  private void exactNames() {
    check.sentence("The first such naming has '<' for the seen link with the lowest number, if"
        + " there is one with that, then for the next one, and so on.");
    all(new Story(), "true", "areNameable");
    for (String links : new String[] {"01s", "10s"}) {
      Story pair = Story.houses(2).links(links).and("addWindow 0", "say 1 0 -1");
      all(pair, "true", "areNameable");
      gives(pair, "exact 0", UNFIT);
      gives(pair.and("look 0 0 -1"), "exact 0", "<");
    }
    Story full = Story.allLinksSeen();
    gives(full, "areNameable", "true");
    for (int link = 0; link < 30; link++) {
      gives(full, "exact " + link, "" + "<><>>".charAt(link % 5));
      gives(full.lookAt("054 451 350"), "exact " + link, "" + "<><>>".charAt(link % 5));
    }
    // One way of fourteen houses, its links told by turns from their nearer and farther houses.
    Story turns = Story.houses(14).links("01s 21s 23s 43s 45s 65s 67s 87s 89s a9s abs cbs cds")
        .and("addWindow 0", "say 13 0 -1", "look 0 0 -1");
    for (int link = 0; link < 13; link++) {
      gives(turns, "exact " + link, link == 0 || link % 2 == 1 ? "<" : ">");
    }
    gives(Story.sights(24), "areNameable", "true");
    // If 1 paid 0, 2 and 3 would pay 1, 3 would pay 2, and 231 would go down, then up.
    Story bound = Story.houses(4).links("10s 12s 13s 23s").windows(4).lookAt("012 013 123");
    gives(bound, "exact 0", "<");
    names(bound.lookAt("231"), "><<<");
    // As the first link goes down, so do the last one and, though its number is lower, the middle.
    names(Story.houses(4).links("10s 23s 12s").windows(1).and("look 0 1 -1"), "<>>");
    names(Story.houses(4).links("10s 23s 21s").windows(1).and("look 0 1 -1"), "<><");
    onlyNaming();
    ring();
    all(Story.unnameable(), "false", "areNameable");
    all(Story.unnameable(), NOTHING, "exact 0", "exact 5");
    all(Story.unnameable().and("forget"), "true", "areNameable");
    all(Story.unnameable().and("forget"), UNFIT, "exact 0");
  }

  private void names(Story story, String due) {
    gives(story, "areNameable", "true");
    for (int link = 0; link < due.length(); link++) {
      gives(story, "exact " + link, "" + due.charAt(link));
    }
  }

  /**
   * No house between may pay both the others of a way. If 1 paid 0, then 3 and 4 would pay 1, 0
   * would pay 4, and 3 would pay 0, too. So 0 pays 1, 4 pays 0, 1 pays 4, 3 pays 1, 2 and 0 pay 3.
   */
  private void onlyNaming() {
    String[] pays = {"40", "01", "31", "03", "23", "14"};
    for (int turned = 0; turned < 64; turned++) {
      StringBuilder links = new StringBuilder();
      StringBuilder due = new StringBuilder();
      for (int link = 0; link < 6; link++) {
        boolean isTurned = (turned & 1 << link) != 0;
        String told = isTurned ? "" + pays[link].charAt(1) + pays[link].charAt(0) : pays[link];
        links.append(link == 0 ? "" : " ").append(told).append('s');
        due.append(isTurned ? '>' : '<');
      }
      Story story = Story.houses(5).links(links.toString()).windows(4)
          .lookAt("041 304 132 104 014 314 031 013");
      names(story, due.toString());
      gives(story, "fewest", "0");
    }
  }

  /** Three ways round a ring, which go all up or all down. */
  private void ring() {
    for (String first : new String[] {"01", "10"}) {
      for (String second : new String[] {"12", "21"}) {
        for (String third : new String[] {"20", "02"}) {
          Story ring = Story.houses(3).links(first + "s " + second + "s " + third + "s").windows(3)
              .lookAt("012 120 201");
          boolean isUp = first.equals("01");
          names(ring, "<" + (second.equals("12") == isUp ? "<" : ">")
              + (third.equals("20") == isUp ? "<" : ">"));
        }
      }
    }
  }

  private void fewestValleys() {
    check.sentence("Throws `UnsupportedOperationException` if more than 10 links are seen");
    for (int links = 0; links <= 13; links++) {
      gives(Story.sights(links), "fewest", links <= 10 ? "0" : UNFIT);
    }
    gives(Story.sights(13).and("forget"), "fewest", "0");
    check.sentence("Returns how many ways seen are no hills at least, whatever links seen are"
        + " named, '<' or '>'.");
    // Of four houses, those who pay two or more others are valleys for each two of them.
    Story all = Story.unnameable();
    gives(all, "fewest", "2");
    for (int house = 4; house < 8; house++) {
      all = all.and("addHouse 0", "addLink 0 " + house + " s", "say " + house + " 7 1",
          "look 0 7 1", "unsay " + house + " 7 1");
    }
    gives(all, "seen", "16");
    gives(all, "fewest", "2");
    gives(all.and("addHouse 0", "addLink 0 8 s", "say 8 7 1", "look 0 7 1"), "fewest", UNFIT);
    gives(all.and("forget"), "fewest", "0");
  }

  // Cones, shares, bills, halls

  private void cones() {
    check.sentence("The cone of a house is itself and all that are reached from it, step by step,"
        + " along links that are up to those who pay, or to siblings.");
    for (String contract : new String[] {"c", "e", "s"}) {
      Story pair = Story.houses(2).links("01" + contract);
      all(pair, "true", "isInCone 0 0", "isInCone 1 1");
      gives(pair, "isInCone 1 0", "" + !contract.equals("e"));
      gives(pair, "isInCone 0 1", "" + contract.equals("s"));
      all(pair.and("cut 0 true"), "false", "isInCone 1 0", "isInCone 0 1");
      all(pair.and("cut 0 true"), "1", "cone 0", "cone 1");
    }
    Story up = Story.houses(14).links("01c 12c 23c 34c 45c 56c 67c 78c 89c 9ac abc bcc cdc");
    Story down = Story.houses(14).links("dcc cbc bac a9c 98c 87c 76c 65c 54c 43c 32c 21c 10c");
    for (int house = 0; house < 14; house++) {
      gives(up, "cone " + house, "" + (house + 1));
      gives(down, "cone " + house, "" + (14 - house));
      gives(Story.chain(14), "cone " + house, "14");
      gives(up, "isInCone 13 " + house, "true");
      gives(up, "isInCone 0 " + house, "" + (house == 0));
      gives(Story.chain(14).and("cut 6 true"), "cone " + house, "7");
    }
    gives(Story.fullLinks('s'), "cone 13", "14");
    gives(Story.fullLinks('e'), "cone 13", "1");
    gives(Story.fullLinks('c'), "cone 13", "14");
    gives(Story.fullLinks('c'), "cone 0", "1");
  }

  private void shares() {
    check.sentence("Of those that have a way to a number, the origins aside, the share of a house"
        + " is how many have it in their way, not as the first one, of all of them, itself too.");
    Story row = Story.chain(14).and("say 0 0 -1", "say 13 7 1");
    for (int house = 0; house < 14; house++) {
      int behind = house == 0 ? 13 : 13 - house;
      gives(row, "share " + house + " 0 -1", "" + (float) behind / (float) 13);
      int ahead = house == 13 ? 13 : house;
      gives(row, "share " + house + " 7 1", "" + (float) ahead / (float) 13);
    }
    Story pair = Story.chain(2).and("addHouse 0", "say 0 0 -1");
    gives(pair, "share 0 0 -1", "1.0");
    all(pair, "0.0", "share 1 0 -1", "share 2 0 -1");
    all(pair.and("cut 0 true"), NOTHING, "share 0 0 -1", "share 1 0 -1");
    all(pair.and("say 1 0 -1"), NOTHING, "share 0 0 -1", "share 1 0 -1");
    // Origins are told aside, though they may be in the ways of others: 21 and 30 are left.
    Story two = Story.houses(4).links("01s 12s 03s").and("say 0 0 -1", "say 1 0 -1");
    all(two, "0.5", "share 0 0 -1", "share 1 0 -1");
    all(two, "0.0", "share 2 0 -1", "share 3 0 -1");
  }

  private void uses() {
    check.sentence("The use of a link is the greatest, of the greater amount of each sample, when"
        + " the greatest ones, a twentieth of how many there are, cut, were taken away; 0 without"
        + " samples.");
    int[] edges = {0, 0, 1, 1, 19, 19, 20, 19, 21, 20, 39, 38, 40, 38, 59, 57, 60, 57};
    for (int i = 0; i < edges.length; i += 2) {
      int count = edges[i];
      Story rising = Story.samples(0, 'c');
      Story falling = Story.samples(0, 'e');
      Story mixed = Story.samples(0, 's');
      for (int sample = 1; sample <= count; sample++) {
        rising = rising.and("sample 0 " + sample + " " + sample / 2);
        falling = falling.and("sample 0 0 " + (count + 1 - sample));
        int amount = sample % 2 == 0 ? sample : count - (count + 1) % 2 + 1 - sample;
        mixed = mixed.and("sample 0 " + amount + " " + amount);
      }
      all(rising, "" + edges[i + 1], "use 0");
      all(falling, "" + edges[i + 1], "use 0");
      all(mixed, "" + edges[i + 1], "use 0");
    }
    Story greatest = Story.samples(0, 'c').and("sample 0 9999 0");
    gives(greatest, "use 0", "9999");
    Story nineteen = greatest;
    for (int sample = 0; sample < 18; sample++) {
      nineteen = nineteen.and("sample 0 0 0");
    }
    gives(nineteen, "use 0", "9999");
    gives(nineteen.and("sample 0 0 0"), "use 0", "0");
    gives(nineteen.and("sample 0 0 9999"), "use 0", "9999");
    gives(nineteen.and("sample 0 0 0", "clearSamples 0"), "use 0", "0");
    gives(nineteen.and("clearSamples 0", "sample 0 3 4"), "use 0", "4");
  }

  private void bills() {
    check.sentence("A link 'c' has a price and a commit, 0 at first.");
    Story link = Story.samples(0, 'c');
    gives(link, "bill 0", "0");
    gives(link, "terms 0 999 9999", "0");
    gives(link.and("terms 0 999 0"), "terms 0 0 0", "999");
    gives(link.and("terms 0 999 0", "terms 0 0 0"), "terms 0 1 1", "0");
    gives(link.and("terms 0 0 9999"), "bill 0", "0");
    gives(link.and("terms 0 999 0"), "bill 0", "0");
    gives(link.and("sample 0 9999 9999"), "bill 0", "0");
    check.sentence("The bill is the price times the greater one of the use and the commit.");
    gives(link.and("terms 0 999 9999"), "bill 0", "9989001");
    gives(link.and("terms 0 999 0", "sample 0 0 9999"), "bill 0", "9989001");
    gives(link.and("terms 0 999 9999", "sample 0 9999 9999"), "bill 0", "9989001");
    gives(link.and("terms 0 3 5", "sample 0 4 4"), "bill 0", "15");
    gives(link.and("terms 0 3 5", "sample 0 5 4"), "bill 0", "15");
    gives(link.and("terms 0 3 5", "sample 0 4 6"), "bill 0", "18");
    gives(link.and("terms 0 3 5", "terms 0 3 0", "sample 0 4 1"), "bill 0", "12");
    gives(link.and("terms 0 3 5", "sample 0 9 9", "clearSamples 0"), "bill 0", "15");
  }

  private void quarrels() {
    check.sentence("A link 'e' quarrels if ten times the greater sum of amounts of one direction is"
        + " more than a ratio told times the sum of the other one.");
    Story link = Story.samples(0, 'e');
    quarrel(link, 10, "false");
    quarrel(link, 99, "false");
    for (String both : new String[] {"# *", "* #"}) {
      quarrel(link.and(sample(both, 1, 1)), 10, "false");
      quarrel(link.and(sample(both, 2, 1)), 19, "true");
      quarrel(link.and(sample(both, 2, 1)), 20, "false");
      quarrel(link.and(sample(both, 10, 9)), 11, "true");
      quarrel(link.and(sample(both, 10, 9)), 12, "false");
      quarrel(link.and(sample(both, 99, 10)), 99, "false");
      quarrel(link.and(sample(both, 100, 10)), 99, "true");
      quarrel(link.and(sample(both, 1, 0)), 99, "true");
      quarrel(link.and(sample(both, 1, 0), sample(both, 0, 1)), 10, "false");
      quarrel(link.and(sample(both, 3, 0), sample(both, 0, 1), sample(both, 0, 1)), 14, "true");
      quarrel(link.and(sample(both, 3, 0), sample(both, 0, 1), sample(both, 0, 1)), 15, "false");
      quarrel(link.and(sample(both, 1, 0), "clearSamples 0"), 10, "false");
      Story many = link;
      for (int sample = 0; sample < 59; sample++) {
        many = many.and(sample(both, 9999, 1010));
      }
      quarrel(many.and(sample(both, 9999, 1010)), 99, "false");
      quarrel(many.and(sample(both, 9999, 1009)), 99, "true");
      quarrel(many.and(sample(both, 9998, 1010)), 99, "false");
      quarrel(many.and("clearSamples 0"), 99, "false");
    }
  }

  private static String sample(String both, int greater, int other) {
    return "sample 0 " + both.replace("#", "" + greater).replace("*", "" + other);
  }

  private void quarrel(Story story, int ratio, String due) {
    gives(story, "quarrels 0 " + ratio, due);
  }

  private void halls() {
    check.sentence("Two houses meet at the lowest hall in which both are, one with itself"
        + " likewise.");
    Story story = Story.houses(14).and("addHall", "addHall", "addHall", "addHall",
        "join 0 0 true", "join 1 0 true", "join 3 0 true", "join 1 13 true", "join 2 13 true",
        "join 3 13 true", "join 2 5 true");
    all(story, "1", "meet 0 13", "meet 13 0", "meet 13 13");
    all(story, "0", "meet 0 0");
    all(story, "2", "meet 5 13", "meet 5 5");
    all(story, NOTHING, "meet 0 5", "meet 5 0", "meet 6 6", "meet 0 6");
    all(story.and("join 1 13 false"), "3", "meet 0 13", "meet 13 0");
    all(story.and("join 1 13 false"), "2", "meet 13 13");
    all(story.and("join 1 13 false", "join 3 0 false"), NOTHING, "meet 0 13", "meet 13 0");
    all(story.and("join 0 13 true"), "0", "meet 0 13", "meet 13 0");
  }

  // Sums

  private void sums() {
    check.sentence("then for each link 31 times itself plus its use, then 31 times itself plus 1 if"
        + " it is cut, otherwise 0.");
    Story story = Story.sights(24).and("sample 0 9999 0", "sample 12 5 7", "cut 12 true");
    List<Integer> terms = new ArrayList<>();
    for (int block = 0; block < 8; block++) {
      for (int house = 0; house < 14; house++) {
        terms.add(block < 5 && house < 13 ? Math.abs(house - 3 * block) + 1 : 0);
      }
    }
    for (int way = 0; way < 24; way++) {
      terms.add(way < 13 ? way + 2 : 27 - way);
    }
    for (int link = 0; link < 13; link++) {
      terms.add(link == 0 ? 9999 : link == 12 ? 7 : 0);
      terms.add(link == 12 ? 1 : 0);
    }
    BigInteger sum = BigInteger.valueOf(7);
    for (int term : terms) {
      sum = sum.multiply(BigInteger.valueOf(31)).add(BigInteger.valueOf(term));
    }
    check.holds("it wraps around", sum.bitLength() > 64);
    gives(story, "checksum", "" + sum.longValue());
    check.sentence("Returns the sum of their houses divided by their number, both converted to"
        + " double.");
    gives(Story.sights(0), "meanLength", NOTHING);
    gives(Story.sights(1), "meanLength", "2.0");
    gives(Story.sights(2), "meanLength", "2.5");
    gives(Story.sights(13), "meanLength", "8.0");
    gives(Story.sights(14), "meanLength", "" + 118.0 / 14.0);
    gives(Story.sights(24), "meanLength", "" + 203.0 / 24.0);
    gives(Story.sights(24).and("forget"), "meanLength", NOTHING);
    check.sentence("as long as no house leaks, each way of a house to a block is a hill by"
        + " contracts");
    for (String valley : new String[] {"10c 12c", "01e 12e", "10c 12e", "01e 12c"}) {
      Story leak = Story.houses(3).links(valley).and("say 2 0 -1", "leak 1 true");
      way(leak, 0, "0 -1", "012");
      all(leak, "true", "isSound");
      way(leak.and("leak 1 false"), 0, "0 -1", "none");
      all(leak.and("leak 1 false", "leak 2 true"), "true", "isSound");
    }
    all(Story.houses(3).links("01c 02c").and("say 2 0 -1", "leak 0 true"), "true", "isSound");
    all(Story.houses(4).links("01c 12e 32c").and("say 3 0 -1"), "true", "isSound");
    all(Story.houses(3).links("01c 21c").and("say 2 0 -1"), "true", "isSound");
    all(Story.houses(3).links("01e 21c").and("say 2 0 -1"), "true", "isSound");
    all(Story.chain(14).and("say 0 0 -1"), "true", "isSound");
    all(Story.chain(14).and("say 13 7 -1"), "true", "isSound");
    all(Story.unnameable(), "true", "isSound");
    all(Story.allLinksSeen().lookAt("054 451 350"), "true", "isSound");
  }
}
