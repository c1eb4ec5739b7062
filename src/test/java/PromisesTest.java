import java.util.NoSuchElementException;

/** Each promise of the document by answers that were worked out by hand. */
public final class PromisesTest {
  private static final Class<IndexOutOfBoundsException> NO_SUCH = IndexOutOfBoundsException.class;
  private static final Class<IllegalArgumentException> BAD = IllegalArgumentException.class;
  private static final Class<UnsupportedOperationException> UNFIT =
      UnsupportedOperationException.class;
  private static final Class<IllegalStateException> FULL = IllegalStateException.class;
  private static final Class<NoSuchElementException> NOTHING = NoSuchElementException.class;

  private final Check check = new Check();

  public static void main(String[] args) {
    PromisesTest test = new PromisesTest();
    test.housesAndLinks();
    test.numbers();
    test.waysByRounds();
    test.waysByFilters();
    test.traffic();
    test.cutsAndCounts();
    test.windows();
    test.votes();
    test.exactNames();
    test.conesAndShares();
    test.bills();
    test.halls();
    test.sums();
    test.check.end();
  }

  // Worlds that several promises use

  private static Valleyfree houses(int count) {
    Valleyfree x = new Valleyfree();
    for (int i = 0; i < count; i++) {
      x.addHouse(0);
    }
    return x;
  }

  /** Links like "01c 12e": the first house, the second one, the contract; two houses, a letter. */
  private static Valleyfree world(int count, String links) {
    Valleyfree x = houses(count);
    for (String link : links.split(" ")) {
      x.addLink(digit(link, 0), digit(link, 1), link.charAt(2));
    }
    return x;
  }

  private static int digit(String text, int at) {
    return Character.digit(text.charAt(at), 16);
  }

  private static String way(Valleyfree x, int house, int block, int half) {
    try {
      StringBuilder text = new StringBuilder();
      for (int i = 0; i < x.wayLength(house, block, half); i++) {
        text.append(Integer.toHexString(x.wayAt(house, block, half, i)));
      }
      return text.toString();
    } catch (NoSuchElementException e) {
      return "none";
    }
  }

  private void isWay(String what, Valleyfree x, int house, String due) {
    isWay(what, x, house, 0, -1, due);
  }

  private void isWay(String what, Valleyfree x, int house, int block, int half, String due) {
    String got = way(x, house, block, half);
    check.is(what + ": way of " + house + " is " + got + ", due is " + due, got.equals(due), true);
  }

  private void housesAndLinks() {
    check.promise(1, "A new object");
    Valleyfree x = new Valleyfree();
    check.is("seen", x.seen(), 0);
    check.is("checksum", x.checksum(), 7);
    check.fails("leak of house 0", NO_SUCH, () -> x.leak(0, true));
    check.fails("contract of link 0", NO_SUCH, () -> x.contract(0));
    check.fails("look at window 0", NO_SUCH, () -> x.look(0, 0, -1));
    check.is("is settled", x.areSettled(0, -1), true);
    check.is("rounds", x.rounds(7, 1), 0);
    check.is("second object is another one", new Valleyfree().addHouse(0), 0);

    check.promise(2, "addHouse");
    check.fails("land -1", BAD, () -> x.addHouse(-1));
    check.fails("land 4", BAD, () -> x.addHouse(4));
    for (int i = 0; i < 14; i++) {
      check.is("house", x.addHouse(i % 4), i);
    }
    check.fails("house 15", FULL, () -> x.addHouse(0));
    check.fails("house 15 of land 4", BAD, () -> x.addHouse(4));
    check.is("the last house stands", x.leak(13, false), false);
    check.fails("no house was added", NO_SUCH, () -> x.leak(14, false));

    check.promise(3, "addLink");
    check.fails("first -1", NO_SUCH, () -> x.addLink(-1, 0, 'c'));
    check.fails("second 14", NO_SUCH, () -> x.addLink(0, 14, 'x'));
    check.fails("both the same", BAD, () -> x.addLink(3, 3, 'c'));
    check.fails("contract x", BAD, () -> x.addLink(0, 1, 'x'));
    check.fails("contract C", BAD, () -> x.addLink(0, 1, 'C'));
    check.is("link", x.addLink(0, 1, 'c'), 0);
    check.fails("the same", UNFIT, () -> x.addLink(0, 1, 'c'));
    check.fails("the other way round", UNFIT, () -> x.addLink(1, 0, 'e'));
    check.fails("bad contract first", BAD, () -> x.addLink(1, 0, 'x'));
    int links = 1;
    for (int i = 0; i < 14 && links < 30; i++) {
      for (int j = i + 2; j < 14 && links < 30; j++) {
        check.is("link", x.addLink(j, i, links % 2 == 0 ? 'e' : 's'), links);
        links++;
      }
    }
    check.fails("link 31", FULL, () -> x.addLink(12, 13, 'c'));
    check.fails("link 31 between joined ones", UNFIT, () -> x.addLink(0, 1, 'c'));

    check.promise(4, "contract");
    check.is("contract", x.contract(0), 'c');
    check.is("contract", x.contract(1), 's');
    check.is("contract", x.contract(28), 'e');
    check.is("contract", x.contract(29), 's');
    check.fails("link -1", NO_SUCH, () -> x.contract(-1));
    check.fails("link 30", NO_SUCH, () -> x.contract(30));

    check.promise(5, "cut");
    check.is("up at first", x.cut(0, true), false);
    check.is("cut then", x.cut(0, true), true);
    check.is("cut still", x.cut(0, false), true);
    check.is("joined", x.cut(0, false), false);
    check.is("another one", x.cut(29, false), false);
    check.fails("link -1", NO_SUCH, () -> x.cut(-1, true));
    check.fails("link 30", NO_SUCH, () -> x.cut(30, true));
    likesLeaksAndFilters();
  }

  private void likesLeaksAndFilters() {
    check.promise(6, "like");
    Valleyfree x = world(3, "01c");
    check.is("like at first", x.like(0, 1, 9), 0);
    check.is("like before", x.like(0, 1, 4), 9);
    check.is("the other one's like", x.like(1, 0, 5), 0);
    check.is("the other one's like before", x.like(1, 0, 5), 5);
    check.is("like before", x.like(0, 1, 0), 4);
    check.fails("house 3", NO_SUCH, () -> x.like(3, 0, 1));
    check.fails("neighbour -1", NO_SUCH, () -> x.like(0, -1, 10));
    check.fails("like 10", BAD, () -> x.like(0, 1, 10));
    check.fails("like -1", BAD, () -> x.like(0, 2, -1));
    check.fails("no link", UNFIT, () -> x.like(0, 2, 1));
    check.fails("itself", UNFIT, () -> x.like(0, 0, 1));
    check.is("nothing changed", x.like(0, 1, 0), 0);
    x.cut(0, true);
    check.is("a cut link is one", x.like(0, 1, 2), 0);

    check.promise(7, "leak");
    check.is("not at first", x.leak(2, true), false);
    check.is("then", x.leak(2, true), true);
    check.is("still", x.leak(2, false), true);
    check.is("no more", x.leak(2, false), false);
    check.is("another one", x.leak(1, false), false);
    check.fails("house -1", NO_SUCH, () -> x.leak(-1, true));
    check.fails("house 3", NO_SUCH, () -> x.leak(3, true));

    check.promise(8, "filter");
    check.is("not at first", x.filter(0, 'o', true), false);
    check.is("the other kind", x.filter(0, 'l', true), false);
    check.is("then", x.filter(0, 'o', false), true);
    check.is("the other kind stands", x.filter(0, 'l', true), true);
    check.is("no more", x.filter(0, 'o', false), false);
    check.is("another house", x.filter(1, 'l', false), false);
    check.fails("kind x", BAD, () -> x.filter(0, 'x', true));
    check.fails("house 3", NO_SUCH, () -> x.filter(3, 'x', true));
  }

  private void numbers() {
    check.promise(9, "say");
    Valleyfree x = houses(14);
    check.is("one", x.say(3, 7, -1), 1);
    check.is("two", x.say(4, 7, -1), 2);
    check.is("a half is another number", x.say(3, 7, 0), 1);
    check.is("and so is the other one", x.say(3, 7, 1), 1);
    check.is("and another block", x.say(3, 6, 1), 1);
    check.fails("house 14", NO_SUCH, () -> x.say(14, 8, 0));
    check.fails("house -1", NO_SUCH, () -> x.say(-1, 0, 0));
    check.fails("block 8", BAD, () -> x.say(0, 8, 0));
    check.fails("block -1", BAD, () -> x.say(0, -1, 0));
    check.fails("half 2", BAD, () -> x.say(0, 0, 2));
    check.fails("half -2", BAD, () -> x.say(0, 0, -2));
    check.fails("half far off", BAD, () -> x.say(0, 0, Integer.MAX_VALUE));
    check.fails("half far off", BAD, () -> x.say(0, 0, Integer.MIN_VALUE));
    check.fails("it says so", UNFIT, () -> x.say(3, 7, -1));
    int open = 5;
    for (int i = 0; i < 55; i++) {
      x.say(i % 14, i / 14, i % 3 - 1);
      open++;
    }
    check.is("sayings", open, 60);
    check.fails("saying 61", FULL, () -> x.say(0, 7, -1));
    check.fails("says so already", UNFIT, () -> x.say(3, 7, -1));
    check.fails("saying 61 of a bad block", BAD, () -> x.say(0, 8, -1));

    check.promise(10, "unsay");
    check.fails("house 14", NO_SUCH, () -> x.unsay(14, 8, 0));
    check.fails("block 8", BAD, () -> x.unsay(0, 8, 0));
    check.fails("half 2", BAD, () -> x.unsay(0, 0, 2));
    check.fails("it does not say so", NOTHING, () -> x.unsay(0, 7, -1));
    check.is("one is left", x.unsay(3, 7, -1), 1);
    check.fails("not twice", NOTHING, () -> x.unsay(3, 7, -1));
    check.is("room for one again", x.say(0, 7, -1), 2);
    check.fails("and no more", FULL, () -> x.say(1, 7, -1));
    check.is("none is left", x.unsay(3, 7, 0), 0);

    check.promise(11, "sign");
    check.is("for none", x.sign(0, 5, true), -1);
    check.is("for 5", x.sign(0, 0, false), 5);
    check.is("for 0", x.sign(0, 13, false), 0);
    check.is("another block", x.sign(7, 0, false), -1);
    check.fails("house 14", NO_SUCH, () -> x.sign(8, 14, true));
    check.fails("block 8", BAD, () -> x.sign(8, 0, true));
    check.fails("block -1", BAD, () -> x.sign(-1, 0, true));
    check.is("nothing changed", x.sign(0, 1, false), 13);
  }

  private void waysByRounds() {
    check.promise(12, "areSettled");
    // 1 and 2 are siblings of 0, who has the block, and like each other more.
    Valleyfree quarrel = world(3, "01s 02s 12s");
    quarrel.say(0, 0, -1);
    check.is("settled", quarrel.areSettled(0, -1), true);
    quarrel.like(1, 2, 1);
    check.is("settled, one likes", quarrel.areSettled(0, -1), true);
    quarrel.like(2, 1, 1);
    check.is("both like", quarrel.areSettled(0, -1), false);
    check.is("another number", quarrel.areSettled(0, 0), true);
    check.fails("block 8", BAD, () -> quarrel.areSettled(8, 0));
    check.fails("half -2", BAD, () -> quarrel.areSettled(0, -2));

    check.promise(13, "rounds");
    check.is("not settled", quarrel.rounds(0, -1), 40);
    check.is("nobody says so", quarrel.rounds(0, 1), 0);
    Valleyfree chain = world(5, "01c 12c 23c 34c");
    chain.say(0, 2, 1);
    check.is("a round for each house", chain.rounds(2, 1), 5);
    chain.cut(1, true);
    check.is("a round for each house up to the cut", chain.rounds(2, 1), 2);
    check.fails("block -1", BAD, () -> chain.rounds(-1, 0));
    check.fails("half 2", BAD, () -> chain.rounds(0, 2));
    // 1 first takes the way from 0, then the one from 2, whom it likes, as 2 has one.
    Valleyfree later = world(4, "01s 03s 32s 21s");
    later.say(0, 0, -1);
    later.like(1, 2, 5);
    later.like(2, 3, 1);
    check.is("rounds", later.rounds(0, -1), 4);
    isWay("liked most", later, 1, "1230");

    check.promise(14, "wayLength");
    chain.cut(1, false);
    check.is("own way", chain.wayLength(0, 2, 1), 1);
    check.is("longest way", chain.wayLength(4, 2, 1), 5);
    check.fails("no way to another number", NOTHING, () -> chain.wayLength(4, 2, -1));
    check.fails("not settled", NOTHING, () -> quarrel.wayLength(1, 0, -1));
    check.fails("not settled, the origin", NOTHING, () -> quarrel.wayLength(0, 0, -1));
    check.fails("house 5", NO_SUCH, () -> chain.wayLength(5, 8, 0));
    check.fails("block 8", BAD, () -> chain.wayLength(0, 8, 0));
    check.fails("half 2", BAD, () -> chain.wayLength(0, 0, 2));
    Valleyfree long14 = world(14, "01c 12c 23c 34c 45c 56c 67c 78c 89c 9ac abc bcc cdc");
    long14.say(0, 0, -1);
    isWay("the longest one there can be", long14, 13, "dcba9876543210");

    check.promise(15, "wayAt");
    check.is("the house itself", chain.wayAt(4, 2, 1, 0), 4);
    check.is("the next one", chain.wayAt(4, 2, 1, 1), 3);
    check.is("the origin", chain.wayAt(4, 2, 1, 4), 0);
    check.fails("index 5", NOTHING, () -> chain.wayAt(4, 2, 1, 5));
    check.fails("index -1", NOTHING, () -> chain.wayAt(4, 2, 1, -1));
    check.fails("no way", NOTHING, () -> chain.wayAt(4, 2, 0, 0));
    check.fails("house -1", NO_SUCH, () -> chain.wayAt(-1, 2, 3, 0));
    check.fails("block 9", BAD, () -> chain.wayAt(0, 9, 0, 0));
    ranks();
    bestOnes();
    tellings();
  }

  private void ranks() {
    check.promise(16, "rank");
    // 0 pays 1, 1 and 2 are equals, 3 pays 2; 4 is 3's sibling, 5 is 2's.
    Valleyfree x = world(6, "01c 12e 32c 34s 25s");
    x.say(0, 0, -1);
    check.is("its own", x.rank(0, 0, -1), 'c');
    check.is("from one who pays", x.rank(1, 0, -1), 'c');
    check.is("from an equal", x.rank(2, 0, -1), 'e');
    check.is("from one that is paid", x.rank(3, 0, -1), 'p');
    check.is("from a sibling that has it from one that is paid", x.rank(4, 0, -1), 'p');
    check.is("from a sibling that has it from an equal", x.rank(5, 0, -1), 'e');
    isWay("through all", x, 4, "43210");
    x.say(5, 1, 0);
    check.is("from a sibling whose own it is", x.rank(2, 1, 0), 'c');
    check.fails("none", NOTHING, () -> x.rank(0, 2, -1));
    check.fails("house 6", NO_SUCH, () -> x.rank(6, 8, -1));
    check.fails("block 8", BAD, () -> x.rank(0, 8, -1));
    check.fails("half -2", BAD, () -> x.rank(0, 0, -2));
  }

  private void bestOnes() {
    check.promise(14, "wayLength, the best way");
    // 0 can go to 5 by 1 who pays, by 2, an equal, or by 3, who is paid and has it at once.
    Valleyfree x = world(6, "10c 02e 03c 41c 42c 53c 54c");
    x.say(5, 0, -1);
    isWay("the better rank ahead of the shorter one", x, 0, "0145");
    x.cut(0, true);
    isWay("an equal ahead of one that is paid", x, 0, "0245");
    x.cut(0, false);
    x.like(0, 3, 1);
    isWay("the like ahead of the rank", x, 0, "035");
    x.like(0, 2, 2);
    isWay("the greater like", x, 0, "0245");
    x.like(0, 1, 2);
    isWay("the rank among like likes", x, 0, "0145");
    Valleyfree y = world(6, "10c 20c 30c 43c 52c 51c 41c");
    y.say(4, 0, -1);
    y.say(5, 0, -1);
    isWay("the neighbour with the lowest number", y, 0, "014");
    y.cut(0, true);
    isWay("then the next one", y, 0, "025");
    y.cut(1, true);
    isWay("then the last one", y, 0, "034");
    Valleyfree z = world(5, "10c 20c 31c 43c 42c");
    z.say(4, 0, -1);
    isWay("the shorter one ahead of the lowest number", z, 0, "024");
    z.say(0, 0, -1);
    isWay("the own one ahead of all", z, 0, "0");
    z.like(0, 1, 9);
    isWay("even of the liked ones", z, 0, "0");
    // 0 can go to 9 by 1, an equal, far round, or by 9, who is paid, at once.
    Valleyfree far = world(10, "09c 01e 21c 32c 43c 54c 65c 76c 87c 98c");
    far.say(9, 0, -1);
    isWay("a far better rank ahead of a near one", far, 0, "0123456789");
    far.like(0, 9, 1);
    isWay("a little like ahead of both", far, 0, "09");
    far.like(0, 1, 1);
    isWay("both liked", far, 0, "0123456789");
  }

  private void tellings() {
    check.promise(14, "wayLength, who tells whom");
    // 1 is paid by 0 and pays 2; 3 pays 1; 4 is 1's equal, 5 its sibling.
    Valleyfree x = world(7, "01c 12c 31c 14e 15s 65e");
    x.say(2, 0, -1);
    isWay("rank p to one who pays", x, 0, "012");
    isWay("rank p to another one who pays", x, 3, "312");
    isWay("rank p to no equal", x, 4, "none");
    isWay("rank p to a sibling", x, 5, "512");
    isWay("rank p of the sibling to no equal", x, 6, "none");
    x.leak(1, true);
    isWay("but if it leaks", x, 4, "412");
    isWay("it leaks alone", x, 6, "none");
    x.leak(5, true);
    isWay("both leak", x, 6, "6512");
    x.say(4, 1, -1);
    isWay("rank e to one that is paid, leaking", x, 2, 1, -1, "214");
    x.leak(1, false);
    isWay("rank e to none that is paid", x, 2, 1, -1, "none");
    isWay("rank e to one who pays", x, 0, 1, -1, "014");
    x.say(0, 2, -1);
    isWay("rank c to one that is paid", x, 2, 2, -1, "210");
    isWay("rank c to an equal", x, 4, 2, -1, "410");
    isWay("rank c to a sibling, and its rank is c there", x, 6, 2, -1, "6510");
    x.cut(0, true);
    isWay("not along a cut link", x, 2, 2, -1, "none");
  }

  private void waysByFilters() {
    check.promise(8, "filter by origin");
    Valleyfree x = world(4, "01c 21c 31c");
    x.say(0, 0, -1);
    x.say(2, 0, 0);
    x.filter(3, 'o', true);
    isWay("nothing is signed", x, 3, "310");
    isWay("nothing is signed", x, 3, 0, 0, "312");
    x.sign(0, 0, false);
    isWay("signed for the origin", x, 3, "310");
    isWay("a half of a block signed without them", x, 3, 0, 0, "none");
    isWay("one that does not filter", x, 1, 0, 0, "12");
    x.sign(0, 2, false);
    isWay("signed for another one", x, 3, "none");
    isWay("the half's origin, but signed without halves", x, 3, 0, 0, "none");
    x.sign(0, 2, true);
    isWay("signed with halves", x, 3, 0, 0, "312");
    isWay("signed for another one still", x, 3, "none");
    x.sign(0, 0, true);
    isWay("with halves, for another one", x, 3, 0, 0, "none");
    x.say(3, 0, -1);
    x.sign(0, 1, false);
    isWay("no filter refuses the own one", x, 3, "3");
    x.filter(3, 'o', false);
    isWay("filters no more", x, 3, 0, 0, "312");
    x.sign(1, 0, true);
    x.say(2, 1, 1);
    x.filter(1, 'o', true);
    isWay("others go without it, too", x, 3, 1, 1, "none");
    x.sign(1, 2, true);
    isWay("signed for its origin with halves", x, 3, 1, 1, "312");
    x.sign(0, 2, false);
    isWay("another block's signing is another one", x, 3, 1, 1, "312");
    x.sign(0, 2, true);
    x.sign(1, 2, false);
    isWay("without halves", x, 3, 1, 1, "none");

    check.promise(8, "filter by lock");
    // 0 pays 1; 2 leaks 1's ways to its equal 0.
    Valleyfree y = world(4, "01c 21c 02e 31c");
    y.say(3, 0, -1);
    y.leak(2, true);
    y.cut(0, true);
    isWay("the leaked one", y, 0, "0213");
    y.filter(0, 'l', true);
    isWay("has a house that is paid, also along a cut link", y, 0, "none");
    y.cut(0, false);
    isWay("from one that is paid", y, 0, "013");
    y.like(0, 2, 1);
    isWay("refused though liked", y, 0, "013");
    y.filter(0, 'l', false);
    isWay("taken as liked", y, 0, "0213");
    y.filter(0, 'o', true);
    isWay("the other filter does not lock", y, 0, "0213");
    Valleyfree z = world(4, "01c 12s 02c 32c");
    z.say(3, 0, -1);
    z.filter(0, 'l', true);
    z.like(0, 1, 1);
    isWay("a way from one that is paid through another one that is", z, 0, "0123");
    Valleyfree s = world(3, "01s 12s 02c");
    s.say(2, 0, -1);
    s.filter(0, 'l', true);
    s.cut(2, true);
    isWay("refused from a sibling", s, 0, "none");
    s.filter(0, 'l', false);
    isWay("not refused", s, 0, "012");
    Valleyfree t = world(4, "23c 12s 13s 01s");
    t.say(3, 0, -1);
    t.cut(0, true);
    t.filter(0, 'l', true);
    t.filter(2, 'l', true);
    isWay("one that pays nobody refuses nothing", t, 0, "013");
    isWay("one that pays the origin refuses", t, 2, "none");
    t.cut(0, false);
    isWay("but not what comes from the one that it pays", t, 2, "23");
  }

  private void traffic() {
    check.promise(17, "arrives");
    // 0 has the block, 2 a half of it; 1 carries for both and for 3.
    Valleyfree x = world(5, "01c 21c 31c");
    x.say(0, 0, -1);
    x.say(2, 0, 1);
    check.is("the longer number wins", x.arrives(3, 0, 1), 2);
    check.is("without a way to the half", x.arrives(3, 0, 0), 0);
    check.is("from one who has the block", x.arrives(0, 0, 1), 2);
    check.is("from one who has it, at once", x.arrives(2, 0, 1), 2);
    check.fails("no way", NOTHING, () -> x.arrives(4, 0, 1));
    check.fails("no way to another block", NOTHING, () -> x.arrives(0, 1, 1));
    check.fails("half -1", BAD, () -> x.arrives(0, 0, -1));
    check.fails("half 2", BAD, () -> x.arrives(0, 0, 2));
    check.fails("block 8", BAD, () -> x.arrives(0, 8, 0));
    check.fails("house 5", NO_SUCH, () -> x.arrives(5, 8, -1));
    x.sign(0, 0, false);
    x.filter(3, 'o', true);
    check.is("sent by the block, met by one that has a way to the half", x.arrives(3, 0, 1), 2);
    x.filter(1, 'o', true);
    check.is("all filter", x.arrives(3, 0, 1), 0);
    check.is("but the origin of the half", x.arrives(2, 0, 1), 2);
    // To the half of 0 the ways are not settled, to the block of 1 they are.
    Valleyfree y = world(3, "01s 02s 12s");
    y.like(1, 2, 1);
    y.like(2, 1, 1);
    y.say(0, 0, 0);
    y.say(1, 0, -1);
    check.is("not settled to the half", y.arrives(0, 0, 0), 1);
    y.unsay(1, 0, -1);
    check.fails("nor to the block", NOTHING, () -> y.arrives(0, 0, 0));
    Valleyfree far = world(14, "01c 12c 23c 34c 45c 56c 67c 78c 89c 9ac abc bcc cdc");
    far.say(0, 7, -1);
    check.is("from the one that is farthest", far.arrives(13, 7, 1), 0);

    check.promise(18, "catchment");
    check.is("all others", x.catchment(0, 0, 1), 3);
    x.filter(1, 'o', false);
    check.is("all but the one without links", x.catchment(2, 0, 1), 4);
    check.is("none, not even itself", x.catchment(0, 0, 1), 0);
    check.is("all to the block", x.catchment(0, 0, 0), 4);
    check.is("no number", x.catchment(4, 3, 0), 0);
    check.is("all of fourteen", far.catchment(0, 7, 0), 14);
    x.say(4, 0, 1);
    check.is("itself alone", x.catchment(4, 0, 1), 1);
    check.fails("house 5", NO_SUCH, () -> x.catchment(5, 8, -1));
    check.fails("block -1", BAD, () -> x.catchment(0, -1, 0));
    check.fails("half -1", BAD, () -> x.catchment(0, 0, -1));
    check.fails("half 2", BAD, () -> x.catchment(0, 0, 2));
  }

  private void cutsAndCounts() {
    check.promise(19, "abroad");
    Valleyfree x = new Valleyfree();
    for (int land : new int[] {1, 2, 1, 1, 2, 1}) {
      x.addHouse(land);
    }
    for (String link : "01c 12c 03c 14c 25c".split(" ")) {
      x.addLink(digit(link, 0), digit(link, 1), 'c');
    }
    x.say(0, 3, 0);
    check.is("by 1 to 2, and to 5", x.abroad(3, 0), 2);
    x.cut(4, true);
    check.is("by 1 to 2", x.abroad(3, 0), 1);
    check.is("no ways", x.abroad(3, 1), 0);
    x.say(5, 3, 0);
    check.is("the own one does not count", x.abroad(3, 0), 1);
    x.say(1, 3, 0);
    check.is("the land of their origin", x.abroad(3, 0), 0);
    x.say(4, 4, -1);
    check.is("ways to another land", x.abroad(4, -1), 0);
    x.say(2, 5, 0);
    check.is("from house 0, too", x.abroad(5, 0), 1);
    check.fails("block 8", BAD, () -> x.abroad(8, 0));
    check.fails("half 2", BAD, () -> x.abroad(0, 2));

    check.promise(20, "harm");
    Valleyfree y = world(5, "01c 12c 23c 24c");
    y.say(0, 1, -1);
    check.is("all behind", y.harm(0, 1, -1), 4);
    check.is("some", y.harm(1, 1, -1), 3);
    check.is("one", y.harm(3, 1, -1), 1);
    check.is("no ways", y.harm(0, 1, 0), 0);
    check.is("it was cut for a while alone", y.cut(0, false), false);
    y.cut(3, true);
    check.is("one that is cut", y.harm(3, 1, -1), 0);
    check.is("it is cut still", y.cut(3, true), true);
    check.is("one less has a way", y.harm(1, 1, -1), 2);
    check.fails("link 4", NO_SUCH, () -> y.harm(4, 8, 0));
    check.fails("link -1", NO_SUCH, () -> y.harm(-1, 0, 0));
    check.fails("block 8", BAD, () -> y.harm(0, 8, 0));
    check.fails("half -2", BAD, () -> y.harm(0, 0, -2));
    // Without its way by 3, 1 quarrels with 2, and nobody has a way then.
    Valleyfree q = world(4, "01s 02s 12s 13s 03s");
    q.like(1, 2, 1);
    q.like(2, 1, 1);
    q.like(1, 3, 2);
    q.say(0, 0, -1);
    check.is("all, the origin too, if ways are not settled then", q.harm(3, 0, -1), 4);
    check.is("another way round", q.harm(1, 0, -1), 0);

    check.promise(21, "weakest");
    check.is("not settled then", q.weakest(0, -1), 3);
    q.cut(3, true);
    check.fails("not settled now", NOTHING, () -> q.weakest(0, -1));
    check.is("the one that harms all", y.weakest(1, -1), 0);
    y.say(1, 1, -1);
    check.is("the next one", y.weakest(1, -1), 1);
    y.say(2, 1, -1);
    check.is("the only one", y.weakest(1, -1), 2);
    y.cut(3, false);
    check.is("the lowest of like ones", y.weakest(1, -1), 2);
    y.cut(2, true);
    check.is("a cut one is none", y.weakest(1, -1), 3);
    check.is("nothing was cut", y.cut(3, false), false);
    check.fails("no ways", NOTHING, () -> y.weakest(0, 0));
    Valleyfree ring = world(3, "01s 12s 20s");
    ring.say(0, 0, 1);
    check.fails("no link by which any would", NOTHING, () -> ring.weakest(0, 1));
    check.fails("block 8", BAD, () -> y.weakest(8, 0));
    check.fails("half 2", BAD, () -> y.weakest(0, 2));

    check.promise(22, "paidWays");
    Valleyfree p = world(4, "01c 21e 13c");
    p.say(1, 0, -1);
    check.is("one block", p.paidWays(0), 1);
    p.say(3, 7, -1);
    check.is("two blocks", p.paidWays(0), 2);
    p.say(1, 1, 0);
    check.is("a half is no block", p.paidWays(0), 2);
    p.say(0, 2, -1);
    check.is("nor counts the own one", p.paidWays(0), 2);
    check.is("one by one that is paid, one own, one by one who pays", p.paidWays(1), 1);
    check.is("by an equal", p.paidWays(2), 0);
    check.fails("house 4", NO_SUCH, () -> p.paidWays(4));
    check.fails("house -1", NO_SUCH, () -> p.paidWays(-1));
  }

  private void windows() {
    check.promise(23, "addWindow");
    // A chain of siblings; each house says that it has the number of its own number.
    Valleyfree x = world(14, "01s 12s 23s 34s 45s 56s 67s 78s 89s 9as abs bcs cds");
    for (int house = 0; house < 14; house++) {
      x.say(house, house / 3, house % 3 - 1);
    }
    check.fails("house 14", NO_SUCH, () -> x.addWindow(14));
    check.fails("house -1", NO_SUCH, () -> x.addWindow(-1));
    check.is("window", x.addWindow(0), 0);
    check.is("window", x.addWindow(13), 1);
    check.is("window at the same house", x.addWindow(0), 2);
    check.is("window", x.addWindow(1), 3);
    check.is("window", x.addWindow(5), 4);
    check.fails("window 6", FULL, () -> x.addWindow(0));
    check.fails("window 6 at no house", NO_SUCH, () -> x.addWindow(14));

    check.promise(24, "look");
    check.is("its own way is not added", x.look(0, 0, -1), 0);
    check.is("the first one", x.look(0, 0, 0), 1);
    check.is("it was seen", x.look(0, 0, 0), 1);
    check.is("it was seen by another window", x.look(2, 0, 0), 1);
    x.say(1, 7, 1);
    check.is("it was seen to another number", x.look(0, 7, 1), 1);
    for (int number = 2; number < 14; number++) {
      check.is("further ones", x.look(0, number / 3, number % 3 - 1), number);
    }
    for (int number = 0; number < 11; number++) {
      check.is("those back", x.look(1, number / 3, number % 3 - 1), number + 14);
    }
    check.fails("way 25", FULL, () -> x.look(1, 3, 1));
    check.is("one that was seen", x.look(1, 0, -1), 24);
    check.is("its own one", x.look(1, 4, 0), 24);
    check.fails("no way", NOTHING, () -> x.look(1, 6, 0));
    check.fails("window 5", NO_SUCH, () -> x.look(5, 8, 0));
    check.fails("window -1", NO_SUCH, () -> x.look(-1, 0, 0));
    check.fails("block 8", BAD, () -> x.look(0, 8, 0));
    check.fails("half -2", BAD, () -> x.look(0, 0, -2));
    check.fails("half 2", BAD, () -> x.look(0, 0, 2));

    check.promise(25, "seen");
    check.is("seen", x.seen(), 24);

    check.promise(26, "seenAt");
    check.is("the window's house", x.seenAt(0, 0), 0);
    check.is("the first way's origin", x.seenAt(0, 1), 1);
    check.is("as they were seen", x.seenAt(12, 13), 13);
    check.is("the last one", x.seenAt(23, 3), 10);
    check.fails("index 2", NOTHING, () -> x.seenAt(0, 2));
    check.fails("index -1", NOTHING, () -> x.seenAt(0, -1));
    check.fails("way 24", NOTHING, () -> x.seenAt(24, 0));
    check.fails("way -1", NOTHING, () -> x.seenAt(-1, 0));

    check.promise(27, "forget");
    check.is("there were", x.forget(), 24);
    check.is("there were none", x.forget(), 0);
    check.is("none is seen", x.seen(), 0);
    check.fails("no way", NOTHING, () -> x.seenAt(0, 0));
    check.fails("no link is seen", UNFIT, () -> x.name(0));
    check.is("seen anew", x.look(3, 1, 0), 1);
    degrees();
  }

  private void degrees() {
    check.promise(28, "degree");
    Valleyfree x = world(5, "01c 12c 13c 40c");
    x.addWindow(2);
    x.addWindow(3);
    x.say(0, 0, -1);
    x.say(1, 0, 0);
    check.is("none at first", x.degree(1), 0);
    x.look(0, 0, 0);
    check.is("one", x.degree(1), 1);
    x.look(0, 0, -1);
    check.is("a link seen twice counts once", x.degree(2), 1);
    check.is("the one between", x.degree(1), 2);
    check.is("the origin", x.degree(0), 1);
    check.is("not seen", x.degree(3), 0);
    x.look(1, 0, -1);
    check.is("three", x.degree(1), 3);
    x.cut(0, true);
    check.is("a link seen that is cut", x.degree(1), 3);
    check.is("at it a link is not seen", x.degree(0), 1);
    x.forget();
    check.is("forgotten", x.degree(1), 0);
    check.fails("house 5", NO_SUCH, () -> x.degree(5));
    check.fails("house -1", NO_SUCH, () -> x.degree(-1));
  }

  /**
   * 0 has the degree 4, 1 has 3, and 2 has 5. The link 01 is named against the way 012 by the ways
   * 10 and 310. The last link, 2a, is not seen yet, and the window 2 can see it.
   */
  private static Valleyfree voters() {
    Valleyfree x = world(11, "01s 12s 31s 04s 05s 06s 27s 28s 29s 2as");
    for (int window = 0; window < 4; window++) {
      x.addWindow(window);
    }
    int[] origins = {4, 5, 6, 7, 8, 9, 2, 0};
    int[] windows = {0, 0, 0, 2, 2, 2, 0, 1};
    for (int i = 0; i < origins.length; i++) {
      x.say(origins[i], i, 0);
      x.look(windows[i], i, 0);
    }
    x.look(3, 7, 0);
    x.say(10, 0, 1);
    return x;
  }

  private void votes() {
    Valleyfree x = voters();
    x.addLink(3, 4, 'c');
    check.promise(29, "votes");
    check.fails("a link that is not seen", UNFIT, () -> x.votes(9, true));
    check.fails("nor is this one", UNFIT, () -> x.votes(10, false));
    check.fails("link 11", NO_SUCH, () -> x.votes(11, true));
    check.fails("link -1", NO_SUCH, () -> x.votes(-1, false));
    // 2 has the degree 4 as yet, like 0, so the top of 012 is 0, the first one.
    check.is("0 pays 1", x.votes(0, true), 0);
    check.is("1 pays 0, by 012, by 10 and by 310", x.votes(0, false), 3);
    check.is("1 pays 2", x.votes(1, true), 0);
    check.is("2 pays 1, by 012", x.votes(1, false), 1);
    check.is("hills", x.against(), 0);
    x.look(2, 0, 1);
    check.is("0 pays 1, by 012", x.votes(0, true), 1);
    check.is("1 pays 0, by 10 and by 310", x.votes(0, false), 2);
    check.is("1 pays 2, by 012", x.votes(1, true), 1);
    check.is("2 pays 1", x.votes(1, false), 0);
    check.is("3 pays 1, by 310", x.votes(2, true), 1);
    check.is("4 pays 0", x.votes(3, false), 1);

    check.promise(30, "name");
    check.is("more that the second one pays", x.name(0), '>');
    check.is("more that the first one pays", x.name(1), '<');
    check.fails("a link that is not seen", UNFIT, () -> x.name(10));
    check.fails("link 11", NO_SUCH, () -> x.name(11));
    check.fails("link -1", NO_SUCH, () -> x.name(-1));
    Valleyfree two = world(2, "10e");
    two.addWindow(0);
    two.addWindow(1);
    two.say(0, 0, 0);
    two.say(1, 0, 1);
    two.look(0, 0, 1);
    check.is("the first of like ones is the top", two.name(0), '<');
    two.look(1, 0, 0);
    check.is("votes of both", two.votes(0, true), 1);
    check.is("votes of both", two.votes(0, false), 1);
    check.is("as many", two.name(0), '=');

    check.promise(31, "against");
    check.is("012 goes down, then up", x.against(), 1);
    check.is("a level step is a hill", two.against(), 0);
    check.is("none is seen", new Valleyfree().against(), 0);
    check.is("level, then level, there and back", levels().against(), 2);

    check.promise(35, "wrong");
    check.is("siblings are named level rightly", x.wrong(), 10);
    check.is("an equal that is named level", two.wrong(), 0);
    check.is("none is seen", new Valleyfree().wrong(), 0);
    Valleyfree right = world(4, "01c 21c 31e");
    right.addWindow(0);
    right.say(2, 0, 0);
    right.say(3, 0, 1);
    right.look(0, 0, 0);
    check.is("both named rightly", right.wrong(), 0);
    right.look(0, 0, 1);
    check.is("an equal named as one who pays", right.wrong(), 1);
    Valleyfree turned = world(2, "01c");
    turned.addWindow(0);
    turned.say(1, 0, 0);
    turned.look(0, 0, 0);
    check.is("one who pays named as one that is paid", turned.name(0), '>');
    check.is("is wrong", turned.wrong(), 1);
  }

  /** 0, 1 and 2 are siblings and have the degree 2, and 012, 210 and 02 are seen. */
  private static Valleyfree levels() {
    Valleyfree x = world(3, "01s 12s 02s");
    x.addWindow(0);
    x.addWindow(2);
    x.say(2, 0, 0);
    x.say(0, 0, 1);
    x.look(0, 0, 0);
    x.like(0, 1, 1);
    x.like(2, 1, 1);
    x.look(0, 0, 0);
    x.look(1, 0, 1);
    return x;
  }

  /** Four siblings, each at a window, and all ways of two steps are seen, each one way round. */
  private static Valleyfree allPairs() {
    Valleyfree x = world(4, "01s 02s 03s 12s 13s 23s");
    String links = "01 02 03 12 13 23";
    for (int house = 0; house < 4; house++) {
      x.addWindow(house);
      x.say(house, house, -1);
    }
    for (int from = 0; from < 4; from++) {
      for (int to = from + 1; to < 4; to++) {
        for (int middle = 0; middle < 4; middle++) {
          if (middle != from && middle != to) {
            int direct = links.indexOf("" + from + to) / 3;
            x.cut(direct, true);
            x.like(from, middle, 9);
            x.look(from, to, -1);
            x.like(from, middle, 0);
            x.cut(direct, false);
          }
        }
      }
    }
    return x;
  }

  /** Looks for 012, 013 and 123. */
  private static void lookForThree(Valleyfree x) {
    x.look(0, 2, -1);
    x.look(0, 3, -1);
    x.cut(2, true);
    x.look(1, 3, -1);
    x.cut(2, false);
  }

  private void exactNames() {
    check.promise(32, "areNameable");
    Valleyfree x = voters();
    Valleyfree all = allPairs();
    check.is("none is seen", new Valleyfree().areNameable(), true);
    check.is("some are seen", x.areNameable(), true);
    check.is("all ways of two steps", all.seen(), 12);
    check.is("too many rules", all.areNameable(), false);
    check.is("level by votes, not so here", levels().areNameable(), true);

    check.promise(33, "exact");
    check.is("the first naming has '<'", x.exact(0), '<');
    check.is("wherever it can", x.exact(1), '<');
    check.fails("not seen", UNFIT, () -> x.exact(9));
    check.fails("link 10", NO_SUCH, () -> x.exact(10));
    check.fails("link -1", NO_SUCH, () -> x.exact(-1));
    check.fails("there is none", NOTHING, () -> all.exact(0));
    all.addHouse(0);
    all.addLink(4, 0, 'c');
    check.fails("there is none, but it is not seen", UNFIT, () -> all.exact(6));
    // The ways 012 and 01234 go down where a link is named '<', but at the last one.
    Valleyfree y = world(5, "10s 21s 32s 34s");
    y.addWindow(0);
    y.say(2, 0, 0);
    y.say(4, 0, 1);
    y.look(0, 0, 0);
    check.is("down", y.exact(0), '<');
    check.is("then down again", y.exact(1), '<');
    y.look(0, 0, 1);
    check.is("and again", y.exact(2), '<');
    check.is("so down here, too", y.exact(3), '>');
    Valleyfree z = world(4, "12s 01s 23s");
    z.addWindow(0);
    z.say(3, 0, 0);
    z.look(0, 0, 0);
    check.is("the seen link with the lowest number", z.exact(0), '<');
    check.is("before it all goes up", z.exact(1), '<');
    check.is("behind it is free", z.exact(2), '<');
    Valleyfree late = world(3, "10s 12s");
    late.addWindow(0);
    late.say(2, 0, 0);
    late.look(0, 0, 0);
    check.is("down", late.exact(0), '<');
    check.is("as it goes down there", late.exact(1), '>');

    // If 1 paid 0, 2 and 3 would pay 1, 3 would pay 2, and 231 would go down, then up.
    Valleyfree bound = world(4, "10s 12s 13s 23s");
    for (int house = 0; house < 4; house++) {
      bound.addWindow(house);
      bound.say(house, house, -1);
    }
    lookForThree(bound);
    check.is("three ways bind nothing", bound.exact(0), '<');
    bound.cut(1, true);
    check.is("four ways are seen", bound.look(2, 1, -1), 4);
    bound.cut(1, false);
    check.is("it can be named", bound.areNameable(), true);
    check.is("the lowest one is bound", bound.exact(0), '>');
    check.is("the next one is free", bound.exact(1), '<');
    check.is("and so is the third one", bound.exact(2), '<');
    check.is("and the last one", bound.exact(3), '<');
    bound.forget();
    lookForThree(bound);
    check.is("a way that is forgotten binds nothing", bound.exact(0), '<');

    check.promise(34, "fewest");
    check.is("none is seen", new Valleyfree().fewest(), 0);
    check.is("ten links, all hills", x.fewest(), 0);
    check.is("two at least", all.fewest(), 2);
    x.addLink(3, 4, 's');
    x.look(2, 0, 1);
    check.is("ten links are seen", x.fewest(), 0);
    x.say(4, 1, 1);
    x.look(3, 1, 1);
    check.fails("eleven links are seen", UNFIT, () -> x.fewest());
    check.is("a naming needs no bound", x.exact(10), '<');
    check.is("down by votes alone", levels().fewest(), 0);
  }

  private void conesAndShares() {
    check.promise(36, "cone");
    // 0 pays 1, who pays 2; 3 is 2's sibling and paid by 4; 5 is 2's equal.
    Valleyfree x = world(7, "01c 12c 32s 43c 52e");
    check.is("nobody below", x.cone(0), 1);
    check.is("one below", x.cone(1), 2);
    check.is("by a sibling, too", x.cone(2), 5);
    check.is("by a sibling told the other way round", x.cone(3), 5);
    check.is("not along level links", x.cone(5), 1);
    check.is("without links", x.cone(6), 1);
    x.cut(1, true);
    check.is("not along cut links", x.cone(2), 3);
    check.is("below the cut", x.cone(1), 2);
    check.fails("house 7", NO_SUCH, () -> x.cone(7));
    check.fails("house -1", NO_SUCH, () -> x.cone(-1));
    Valleyfree ring = world(3, "01c 12c 20c");
    check.is("all in a ring", ring.cone(1), 3);
    Valleyfree far = world(14, "01c 12c 23c 34c 45c 56c 67c 78c 89c 9ac abc bcc cdc");
    check.is("all of fourteen", far.cone(13), 14);

    check.promise(37, "isInCone");
    check.is("itself", x.isInCone(6, 6), true);
    check.is("one who pays", x.isInCone(1, 0), true);
    check.is("one that is paid", x.isInCone(0, 1), false);
    check.is("by a sibling", x.isInCone(2, 4), true);
    check.is("behind a cut link", x.isInCone(2, 0), false);
    check.is("an equal", x.isInCone(5, 2), false);
    check.is("far", far.isInCone(13, 0), true);
    check.fails("house 7", NO_SUCH, () -> x.isInCone(7, 0));
    check.fails("other 7", NO_SUCH, () -> x.isInCone(0, 7));
    check.fails("other -1", NO_SUCH, () -> x.isInCone(0, -1));

    check.promise(38, "share");
    Valleyfree y = world(6, "01c 12c 13c 04c");
    y.say(0, 2, 1);
    check.is("in two of four ways of others", y.share(1, 2, 1), (float) 2 / (float) 4);
    check.is("the origin is in all", y.share(0, 2, 1), 1.0f);
    check.is("not as the first one", y.share(2, 2, 1), 0.0f);
    check.is("one without a way", y.share(5, 2, 1), 0.0f);
    y.cut(3, true);
    check.is("two of three", y.share(1, 2, 1), (float) 2 / (float) 3);
    y.say(2, 2, 1);
    check.is("the origins aside", y.share(1, 2, 1), (float) 1 / (float) 2);
    check.fails("no ways", NOTHING, () -> y.share(0, 2, 0));
    y.say(5, 2, 0);
    check.fails("no other house than origins", NOTHING, () -> y.share(5, 2, 0));
    check.fails("house 6", NO_SUCH, () -> y.share(6, 8, 0));
    check.fails("block 8", BAD, () -> y.share(0, 8, 0));
    check.fails("half 2", BAD, () -> y.share(0, 0, 2));
  }

  private void bills() {
    check.promise(39, "terms");
    Valleyfree x = world(4, "01c 12e 23s 03c");
    check.is("price at first", x.terms(0, 999, 9999), 0);
    check.is("price before", x.terms(0, 7, 20), 999);
    check.is("another link", x.terms(3, 1, 0), 0);
    check.fails("price 1000", BAD, () -> x.terms(0, 1000, 0));
    check.fails("price -1", BAD, () -> x.terms(0, -1, 0));
    check.fails("commit 10000", BAD, () -> x.terms(1, 0, 10000));
    check.fails("commit -1", BAD, () -> x.terms(0, 0, -1));
    check.fails("no link c, but e", UNFIT, () -> x.terms(1, 0, 0));
    check.fails("no link c, but s", UNFIT, () -> x.terms(2, 0, 0));
    check.fails("link 4", NO_SUCH, () -> x.terms(4, 1000, 0));
    check.fails("link -1", NO_SUCH, () -> x.terms(-1, 0, 0));
    check.is("nothing changed", x.bill(0), 140);

    check.promise(40, "sample");
    check.is("one", x.sample(0, 19, 3), 1);
    check.is("two", x.sample(0, 0, 9999), 2);
    check.is("another link", x.sample(2, 9999, 0), 1);
    check.fails("forth 10000", BAD, () -> x.sample(0, 10000, 0));
    check.fails("forth -1", BAD, () -> x.sample(0, -1, 0));
    check.fails("back 10000", BAD, () -> x.sample(0, 0, 10000));
    check.fails("back -1", BAD, () -> x.sample(0, 0, -1));
    check.fails("link 4", NO_SUCH, () -> x.sample(4, -1, 0));
    check.fails("link -1", NO_SUCH, () -> x.sample(-1, 0, 0));
    for (int count = 3; count <= 60; count++) {
      check.is("more", x.sample(0, count % 20, 0), count);
    }
    check.fails("sample 61", FULL, () -> x.sample(0, 0, 0));
    check.fails("sample 61 of a bad amount", BAD, () -> x.sample(0, 0, -1));
    uses();

    check.promise(42, "bill");
    Valleyfree y = world(3, "12e 01c 02s");
    check.is("at first", y.bill(1), 0);
    y.terms(1, 3, 50);
    check.is("the commit", y.bill(1), 150);
    y.sample(1, 49, 20);
    check.is("the commit still", y.bill(1), 150);
    y.sample(1, 1, 60);
    check.is("the use", y.bill(1), 180);
    y.terms(1, 999, 0);
    y.sample(1, 9999, 0);
    check.is("the greatest one", y.bill(1), 9989001);
    check.fails("no link c, but e", UNFIT, () -> y.bill(0));
    check.fails("no link c, but s", UNFIT, () -> y.bill(2));
    check.fails("link 3", NO_SUCH, () -> y.bill(3));
    check.fails("link -1", NO_SUCH, () -> y.bill(-1));

    check.promise(43, "clearSamples");
    check.is("there were", x.clearSamples(0), 60);
    check.is("there were none", x.clearSamples(0), 0);
    check.is("no use", x.use(0), 0);
    check.is("terms stand", x.bill(0), 140);
    check.is("another link's stand", x.clearSamples(2), 1);
    check.is("room again", x.sample(0, 5, 6), 1);
    check.is("the new one alone", x.use(0), 6);
    check.fails("link 4", NO_SUCH, () -> x.clearSamples(4));
    check.fails("link -1", NO_SUCH, () -> x.clearSamples(-1));
    quarrels();
  }

  private void uses() {
    check.promise(41, "use");
    Valleyfree x = world(3, "12e 01s");
    check.is("without samples", x.use(1), 0);
    x.sample(1, 3, 5);
    check.is("the greater amount", x.use(1), 5);
    x.sample(1, 8, 5);
    check.is("the greatest one", x.use(1), 8);
    for (int i = 3; i <= 19; i++) {
      x.sample(1, 0, 100 + i);
    }
    check.is("of nineteen none is taken away", x.use(1), 119);
    x.sample(1, 50, 50);
    check.is("of twenty one", x.use(1), 118);
    for (int i = 21; i <= 39; i++) {
      x.sample(1, 200 - i, 0);
    }
    check.is("of thirty-nine one", x.use(1), 178);
    x.sample(1, 0, 0);
    check.is("of forty two", x.use(1), 177);
    for (int i = 41; i <= 60; i++) {
      x.sample(1, 179, 179);
    }
    check.is("of sixty three, of like ones", x.use(1), 179);
    check.is("another link", x.use(0), 0);
    x.sample(0, 7, 6);
    check.is("its own samples alone", x.use(0), 7);
    check.is("and these stand", x.use(1), 179);
    check.fails("link 2", NO_SUCH, () -> x.use(2));
    check.fails("link -1", NO_SUCH, () -> x.use(-1));
  }

  private void quarrels() {
    check.promise(44, "quarrels");
    Valleyfree x = world(3, "12c 01e 02s");
    check.is("without samples", x.quarrels(1, 10), false);
    x.sample(1, 10, 20);
    check.is("ten times 20 is twenty times 10", x.quarrels(1, 20), false);
    check.is("and more than nineteen times", x.quarrels(1, 19), true);
    x.sample(1, 0, 1);
    check.is("by the sums", x.quarrels(1, 20), true);
    check.is("210 against 210", x.quarrels(1, 21), false);
    x.sample(1, 200, 0);
    check.is("2100 against 2079", x.quarrels(1, 99), true);
    x.clearSamples(1);
    check.is("cleared", x.quarrels(1, 10), false);
    x.sample(1, 1, 0);
    check.is("more than nothing", x.quarrels(1, 99), true);
    x.sample(1, 0, 1);
    check.is("as much", x.quarrels(1, 10), false);
    for (int i = 3; i <= 60; i++) {
      x.sample(1, 9999, i % 2);
    }
    check.is("much", x.quarrels(1, 99), true);
    check.fails("ratio 9", BAD, () -> x.quarrels(0, 9));
    check.fails("ratio 100", BAD, () -> x.quarrels(1, 100));
    check.fails("no link e, but c", UNFIT, () -> x.quarrels(0, 10));
    check.fails("no link e, but s", UNFIT, () -> x.quarrels(2, 99));
    check.fails("link 3", NO_SUCH, () -> x.quarrels(3, 9));
    check.fails("link -1", NO_SUCH, () -> x.quarrels(-1, 10));
  }

  private void halls() {
    check.promise(45, "addHall");
    Valleyfree x = houses(3);
    for (int hall = 0; hall < 4; hall++) {
      check.is("hall", x.addHall(), hall);
    }
    check.fails("hall 5", FULL, x::addHall);

    check.promise(46, "join");
    check.is("not in it at first", x.join(2, 0, true), false);
    check.is("then", x.join(2, 0, true), true);
    check.is("still", x.join(2, 0, false), true);
    check.is("no more", x.join(2, 0, false), false);
    check.is("another hall", x.join(3, 0, true), false);
    check.is("another house", x.join(3, 1, true), false);
    check.is("leaving alone", x.join(3, 2, false), false);
    check.fails("hall 4", NO_SUCH, () -> x.join(4, 0, true));
    check.fails("hall -1", NO_SUCH, () -> x.join(-1, 0, true));
    check.fails("house 3", NO_SUCH, () -> x.join(0, 3, true));
    check.fails("house -1", NO_SUCH, () -> x.join(0, -1, true));
    check.fails("no hall yet", NO_SUCH, () -> houses(1).join(0, 0, true));

    check.promise(47, "meet");
    check.is("both are there", x.meet(0, 1), 3);
    x.join(1, 0, true);
    check.is("one alone is there", x.meet(1, 0), 3);
    x.join(1, 1, true);
    check.is("the lowest one", x.meet(1, 0), 1);
    check.is("one with itself", x.meet(0, 0), 1);
    x.join(1, 1, false);
    check.is("one left it", x.meet(0, 1), 3);
    check.fails("one is in none", NOTHING, () -> x.meet(0, 2));
    check.fails("with itself in none", NOTHING, () -> x.meet(2, 2));
    check.fails("house 3", NO_SUCH, () -> x.meet(3, 0));
    check.fails("other 3", NO_SUCH, () -> x.meet(2, 3));
    check.fails("other -1", NO_SUCH, () -> x.meet(0, -1));
  }

  private void sums() {
    check.promise(48, "checksum");
    Valleyfree x = world(3, "01c 12c");
    x.say(0, 0, -1);
    x.say(2, 6, 1);
    x.addWindow(2);
    x.addWindow(1);
    int[] ways = {1, 2, 3, 0, 0, 0, 0, 0, 0, 0, 0, 0, 0, 0, 0, 0, 0, 0, 0, 0, 0, 0, 0, 0};
    check.is("ways to blocks, and links", x.checksum(), sumOn(sumOn(7, ways), 0, 0, 0, 0));
    x.look(0, 0, -1);
    x.look(1, 0, -1);
    check.is("ways seen", x.checksum(), sumOn(sumOn(7, ways), 3, 2, 0, 0, 0, 0));
    x.sample(1, 4, 9);
    x.sample(0, 5, 0);
    x.cut(1, true);
    ways[2] = 0;
    check.is("uses and cuts", x.checksum(), sumOn(sumOn(7, ways), 3, 2, 5, 0, 9, 1));
    x.say(1, 7, -1);
    ways[7 * 3] = 2;
    ways[7 * 3 + 1] = 1;
    check.is("the last block", x.checksum(), sumOn(sumOn(7, ways), 3, 2, 5, 0, 9, 1));

    check.promise(49, "meanLength");
    check.fails("none is seen", NOTHING, () -> new Valleyfree().meanLength());
    check.is("of 3 and 2", x.meanLength(), 2.5);
    x.cut(1, false);
    x.look(0, 7, -1);
    check.is("of 3, 2 and 2", x.meanLength(), 7.0 / 3.0);
    x.forget();
    check.fails("all forgotten", NOTHING, x::meanLength);

    check.promise(50, "isSound");
    check.is("at first", new Valleyfree().isSound(), true);
    check.is("with ways", x.isSound(), true);
    check.is("with votes that are no hills", voters().isSound(), true);
    check.is("without a naming", allPairs().isSound(), true);
    // 1 leaks its way to 2, whom it pays, on to 0, whom it pays, too.
    Valleyfree y = world(3, "10c 12c");
    y.say(2, 0, -1);
    check.is("no leak", y.isSound(), true);
    y.leak(1, true);
    isWay("a leaked way is no hill", y, 0, "012");
    check.is("but while a house leaks", y.isSound(), true);
    Valleyfree z = world(5, "01c 12s 23e 34s");
    z.say(4, 0, -1);
    isWay("up, aside, level, aside", z, 0, "01234");
    check.is("a hill", z.isSound(), true);
  }

  private static long sumOn(long start, int... terms) {
    long sum = start;
    for (int term : terms) {
      sum = 31 * sum + term;
    }
    return sum;
  }
}
