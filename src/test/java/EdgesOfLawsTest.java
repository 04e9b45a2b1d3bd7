/**
 * Part 4 of the document's Terms, promises 26 to 33: each sentence that names an edge has a method of its own, with its
 * words above it.
 */
public final class EdgesOfLawsTest {
  private static final Check C = new Check("EdgesOfLawsTest");
  private static final int NONE = TwoBakers.NONE;
  private static final int LEAST = Integer.MIN_VALUE;
  private static final int MOST = Integer.MAX_VALUE;
  private static final long NOTHING = -1000000000000L;
  /** Who has the most people at the corner stands there: both of two at a. */
  private static final String PAIR = "corner a people 9;corner b people 5;street a b 1;";
  /** Rye is liked everywhere: who has it wants to stand by the other, who hasn't wants to be away. */
  private static final String CAT = "corner a people 10 like rye 3;corner b people 20 like rye 3;street a b 5;home 100;";
  /** Three corners in a line. */
  private static final String LINE = "corner a people 1;corner b people 5;corner c people 5;street a b 2;street b c 2;";

  public static void main(String[] args) {
    walkExactly();
    walkOfTheNearest();
    walkIfSomebodyCantCome();
    walkNotOnShutStreets();
    walkNoneSuch();
    ownOfSeveralTheLeast();
    ownNone();
    ownNoneSuch();
    lossOfOneAndMore();
    lossNone();
    shutsAndOpens();
    shutsThoseBetween();
    shutsEachOfAll();
    opensWithoutPeopleAndSpots();
    lastApartAndPriceHold();
    shutStreetsSellAndWalkNothing();
    shutStreetsAreNoWayOut();
    bestLawNoLawAhead();
    bestLawOfNine();
    bestLawOfRests();
    bestLawAlone();
    bestLawWhereSomebodyCantCome();
    bestLawNone();
    bestLawNoneSuch();
    shiftLeast();
    shiftToAllOfThem();
    shiftOfPrices();
    shiftOfAChain();
    shiftNotAtRest();
    shiftNoneSuch();
    imagesFourAtMost();
    imagesAsTheyAre();
    imagesGoneSince();
    backNoneSuch();
    countsOfAll();
    fullTown();
    countNoneSuch();
    nothingIsOld();
    C.end();
  }

  private static TwoBakers in(String town) {
    TwoBakers x = new TwoBakers();
    C.due("town " + town, Check.town(x, town) > 0, true);
    return x;
  }

  private static TwoBakers two(String town, int bread, int other) {
    TwoBakers x = in(town);
    C.due("the first", x.seller(0, 10, bread, 0, 0), 0);
    C.due("the second", x.seller(0, 10, other, 1, 0), 1);
    return x;
  }

  private static void forceLaw(TwoBakers x, String text) {
    int law = Check.law(x, text);
    C.due("law " + text, law >= 0, true);
    C.due("in force: " + text, x.force(law), true);
  }

  /** "the steps of all people (..) to the nearest of them, together (exactly), times 8" */
  private static void walkExactly() {
    TwoBakers x = in("corner a;corner b;street a b 1 people 1;");
    C.due("half a step", x.walk(0, NONE), 4);
    C.due("from the other end", x.walk(1, NONE), 4);
    C.due("a quarter of a step", x.walk(0, 1), 2);
    x = in("corner a;corner b;corner c;street a b 2 people 1;street b c 1;");
    C.due("a border at a half", x.walk(0, 2), 9 + 4 + 1);
    C.due("a border at a half, the other way round", x.walk(2, 0), 14);
    C.due("a step off behind the second", x.walk(2, NONE), 8 * 4);
    C.due("from the middle", x.walk(101, NONE), 8);
    x = in("corner a people 99;corner b;street a b 12 people 20;");
    C.due("the most", x.walk(1, NONE), 8 * 99 * 12 + 20 * 8 * 72);
    x = in("corner a people 3;step 5;");
    C.due("at the corner", x.walk(0, NONE), 0);
    x = in("corner a people 3;corner b;street a b 2;step 5;");
    C.due("steps, not what they cost", x.walk(1, NONE), 8 * 6);
  }

  /** "to the nearest of them" */
  private static void walkOfTheNearest() {
    TwoBakers x = in(LINE);
    C.due("the second is nearer for most", x.walk(0, 1), 8 * 10);
    C.due("one and the same", x.walk(1, 1), x.walk(1, NONE));
    C.due("on a street", x.walk(101, 2), 8 * 6);
    x = in("corner a;corner b;corner c;street a b 9 people 1;street b c 1;street c a 1;");
    C.due("around a street", x.walk(0, NONE), 11 * 11 + 4 * 2 * 7 + 7 * 7);
    C.due("two on one street", x.walk(103, 106), 4 * 9 + 2 * 9 + 4 * 9);
  }

  /** "none, if somebody can't come" */
  private static void walkIfSomebodyCantCome() {
    TwoBakers x = in("corner a people 1;corner b people 1;");
    C.due("of a corner", x.walk(0, NONE), NONE);
    C.due("of both", x.walk(0, 1), 0);
    x = in("corner a people 1;corner b;");
    C.due("nobody is there", x.walk(0, NONE), 0);
    C.due("somebody is here", x.walk(1, NONE), NONE);
    x = in("corner a;corner b;corner c;street b c 2 people 1;");
    C.due("along a street", x.walk(0, NONE), NONE);
    C.due("along a street they can", x.walk(0, 1), 16);
    x = in("corner a;corner b;corner c;street b c 2;");
    C.due("nobody along it", x.walk(0, NONE), 0);
    x = in("corner a people 1;corner b;corner c;street b c 2 people 1;");
    C.due("one can't, though others along a street can", x.walk(1, NONE), NONE);
    x = in("corner a;corner b;corner c;corner d;street a b 2 people 1;street c d 2 people 1;");
    C.due("those of the first street can't", x.walk(2, NONE), NONE);
    C.due("those of the last street can't", x.walk(0, NONE), NONE);
    C.due("all can", x.walk(2, 0), 32);
  }

  /** "(at corners, along streets that aren't shut)" */
  private static void walkNotOnShutStreets() {
    TwoBakers x = in("corner a;corner b;street a b 4 people 1;");
    C.due("open", x.walk(0, NONE), 8 * 8);
    forceLaw(x, "shut a b;");
    C.due("shut", x.walk(0, NONE), 0);
    C.due("shut, to a spot on it: nobody has to come", x.walk(101, NONE), 0);
    forceLaw(x, "shut a b;open a b 4;");
    C.due("opened, without people", x.walk(0, NONE), 0);
    x = in("corner a people 1;corner b;street a b 4;");
    forceLaw(x, "shut a b;");
    C.due("to a spot on a shut street", x.walk(102, NONE), NONE);
    C.due("to it or a corner", x.walk(102, 0), 0);
    forceLaw(x, "shut a b;open b a 7;");
    C.due("over the opened one", x.walk(1, NONE), 56);
  }

  /** "WALK of two SPOTS (the other NONE: of one). NONE: somebody can't come, none such." */
  private static void walkNoneSuch() {
    TwoBakers x = in("corner a people 1;corner b;street a b 3;");
    int[] none = {LEAST, -2, 2, 12, 99, 100, 103, 119, 120, 121, MOST};
    for (int spot : none) {
      C.due("one is " + spot, x.walk(spot, NONE), NONE);
      C.due("one is " + spot + ", the other is", x.walk(spot, 0), NONE);
      C.due("the other is " + spot, x.walk(0, spot), NONE);
    }
    C.due("none and one", x.walk(NONE, 0), NONE);
    C.due("none and none", x.walk(NONE, NONE), NONE);
    C.due("the last spot", x.walk(102, NONE), 16);
  }

  /** "those with the least WALK, of several the least first, then second" */
  private static void ownOfSeveralTheLeast() {
    TwoBakers x = in("corner a;corner b;corner c;corner d;");
    long[] empty = {0, 0, 1};
    for (int what = 0; what < 3; what++) {
      C.due("of all alike: " + what, x.own(2, what), empty[what]);
    }
    C.due("of all alike, one", x.own(1, 1), 0);
    x = in("corner a;corner b people 2;corner c people 2;corner d people 2;street a b 1;street b c 1;street c d 1;street d b 1;");
    C.due("of three, one", x.own(1, 1), 1);
    C.due("of three, its walk", x.own(1, 0), 8 * 4);
    C.due("of three pairs, the first", x.own(2, 1), 1);
    C.due("of three pairs, the second", x.own(2, 2), 2);
    C.due("of three pairs, their walk", x.own(2, 0), 8 * 2);
    x = in(LINE);
    C.due("the least walk, not the least corner", x.own(1, 1), 1);
    C.due("the least walk of two", x.own(2, 0), 16);
    C.due("the first of two", x.own(2, 1), 1);
    C.due("the second of two", x.own(2, 2), 2);
  }

  /** "OWN of n (1, 2) corners": none, if somebody can't come to any. */
  private static void ownNone() {
    TwoBakers x = in("corner a people 1;corner b people 1;corner c people 1;");
    for (int what = 0; what < 3; what++) {
      C.due("one: " + what, x.own(1, what), NONE);
      C.due("two: " + what, x.own(2, what), NONE);
    }
    forceLaw(x, "open a c 3;");
    C.due("one by the law", x.own(1, 0), NONE);
    C.due("two by the law", x.own(2, 0), 24);
    C.due("two by the law: first", x.own(2, 1), 0);
    C.due("two by the law: second", x.own(2, 2), 1);
    x.force(NONE);
    for (int what = 0; what < 3; what++) {
      C.due("none again: " + what, x.own(2, what), NONE);
    }
    forceLaw(x, "open a c 3;open b c 2;");
    C.due("one by a law that joins all", x.own(1, 1), 2);
    C.due("its walk", x.own(1, 0), 40);
    x = in("corner a people 1;");
    C.due("one corner, one", x.own(1, 0), 0);
    C.due("one corner isn't two", x.own(2, 0), NONE);
    C.due("one corner isn't two: first", x.own(2, 1), NONE);
  }

  /** "NONE: none, none such." */
  private static void ownNoneSuch() {
    TwoBakers x = in(LINE);
    int[] numbers = {LEAST, -1, 0, 3, MOST};
    for (int n : numbers) {
      for (int what = 0; what < 3; what++) {
        C.due("own of " + n, x.own(n, what), NONE);
      }
    }
    int[] wrong = {LEAST, -1, 3, MOST};
    for (int what : wrong) {
      C.due("of one, " + what, x.own(1, what), NONE);
      C.due("of two, " + what, x.own(2, what), NONE);
    }
    C.due("of two", x.own(2, 2), 2);
    C.due("one has no second", x.own(1, 2), NONE);
  }

  /** "LOSS: WALK of all SELLERS' SPOTS less that of OWN of 2 (1, if there's one SELLER)." */
  private static void lossOfOneAndMore() {
    TwoBakers x = in(LINE);
    x.seller(2, 10, 0, 0, 2);
    C.due("of one", x.loss(), 8 * 14 - 8 * 12);
    x.put(0, 1, 10);
    C.due("of one at its best", x.loss(), 0);
    x.seller(1, 10, 0, 0, 2);
    C.due("of two on one corner", x.loss(), 8 * 12 - 16);
    x.put(1, 2, 10);
    C.due("of two at their best", x.loss(), 0);
    x.seller(0, 10, 0, 0, 2);
    C.due("of three, below 0", x.loss(), -16);
    x.put(2, 101, 10);
    C.due("of three, on a street", x.loss(), 8 - 16);
    x.seller(0, 10, 0, 0, 2);
    C.due("of four", x.loss(), -16);
    x = in("corner a;corner b;corner c;street a b 2 people 1;street b c 2 people 1;");
    x.seller(101, 10, 0, 0, 2);
    C.due("of one on a street", x.loss(), 8 + 8 * 4 - 32);
    x.seller(121, 10, 0, 0, 2);
    C.due("of two on streets, below corners' own", x.loss(), 16 - (8 + 16));
  }

  /** "-1,000,000,000,000: no SELLERS, none." */
  private static void lossNone() {
    TwoBakers x = in("corner a;corner b;");
    C.due("no sellers, no people", x.loss(), NOTHING);
    x = in("corner a people 1;corner b people 1;corner c;street a c 4;");
    C.due("no sellers", x.loss(), NOTHING);
    x.seller(0, 10, 0, 0, 2);
    C.due("somebody can't come", x.loss(), NOTHING);
    x.seller(1, 10, 0, 0, 2);
    C.due("all can", x.loss(), 0);
    x.put(0, 101, 10);
    C.due("from a street", x.loss(), 8);
    forceLaw(x, "shut c a;");
    C.due("from a shut street", x.loss(), NOTHING);
    x = in("corner a people 1;");
    x.seller(0, 10, 0, 0, 2);
    C.due("one corner, one seller", x.loss(), 0);
    x.seller(0, 10, 0, 0, 2);
    C.due("one corner isn't two", x.loss(), NOTHING);
    x = in("corner a people 1;corner b people 1;corner c people 1;");
    x.seller(0, 10, 0, 0, 2);
    x.seller(1, 10, 0, 0, 2);
    x.seller(2, 10, 0, 0, 2);
    C.due("no own of two, though three serve all", x.loss(), NOTHING);
  }

  /** "streets between are shut, new ones (..) open, one behind the other" */
  private static void shutsAndOpens() {
    TwoBakers x = in("corner a;corner b;corner c;street a b 5;");
    forceLaw(x, "shut a b;");
    C.due("shut", x.far(0, 1), NONE);
    forceLaw(x, "shut b a;");
    C.due("shut by the other way round", x.far(0, 1), NONE);
    forceLaw(x, "open a b 3;");
    C.due("a second one opens", x.far(0, 1), 3);
    C.due("the first stays", x.far(102, 0), 2);
    forceLaw(x, "open a b 12;");
    C.due("a longer one opens", x.far(0, 1), 5);
    forceLaw(x, "open b a 3;shut a b;");
    C.due("opened, then shut", x.far(0, 1), NONE);
    forceLaw(x, "shut a b;open b a 3;");
    C.due("shut, then opened", x.far(0, 1), 3);
    C.due("shut, then opened: its spot", x.far(102, 102), NONE);
    forceLaw(x, "open a b 3;shut a b;open a b 4;");
    C.due("opened, shut, opened", x.far(0, 1), 4);
    forceLaw(x, "open a b 3;open b a 2;open a b 4;");
    C.due("three between", x.far(0, 1), 2);
    forceLaw(x, "shut a c;");
    C.due("shut where no street is", x.far(0, 1), 5);
    x.force(NONE);
    C.due("without a law all is as told", x.far(0, 1), 5);
    C.due("and as told", x.told(1), 1);
  }

  /** "streets between": those of others stay. */
  private static void shutsThoseBetween() {
    TwoBakers x = in("corner a;corner b;corner c;corner d;street a b 1;street b c 2;street c d 3;street d a 4;");
    forceLaw(x, "shut a b;");
    C.due("a b", x.far(0, 1), 9);
    C.due("b c", x.far(1, 2), 2);
    C.due("c d", x.far(2, 3), 3);
    C.due("d a", x.far(3, 0), 4);
    forceLaw(x, "open a c 5;open b d 6;open a d 1;shut d b;shut a c;");
    C.due("a d stays open", x.far(0, 3), 1);
    C.due("a c is shut", x.far(0, 2), 3);
    C.due("b d is shut", x.far(1, 3), 2);
    forceLaw(x, "open a c 1;open c b 1;open b d 1;open d a 1;open a b 7;open c d 8;shut a b;shut c d;");
    C.due("a b over c", x.far(0, 1), 2);
    C.due("c d over a", x.far(2, 3), 2);
    C.due("a c", x.far(0, 2), 1);
    C.due("a d", x.far(0, 3), 1);
    C.due("b d", x.far(1, 3), 1);
    forceLaw(x, "shut a b;shut b c;shut c d;shut d a;open a b 1;");
    C.due("all shut but the opened one", x.far(0, 1), 1);
    C.due("all others", x.far(1, 2), NONE);
  }

  /** "In force (one or none) it changes the TOWN": each of sixteen streets is shut by its own LAW alone. */
  private static void shutsEachOfAll() {
    TwoBakers x = in(fullText());
    int[] laws = new int[16];
    for (int s = 0; s < 16; s++) {
      int one = x.told(300 + 4 * s);
      int other = x.told(301 + 4 * s);
      if (s == 8) {
        C.due("room for more laws", Check.town(x, fullText()), 12);
      }
      laws[s] = Check.law(x, "shut " + (char) ('a' + other) + " " + (char) ('a' + one) + ";");
      C.due("law of " + s, laws[s], s % 8);
      C.due("open is " + s, x.far(101 + 20 * s, 111 + 20 * s), 10);
      x.force(laws[s]);
      for (int street = 0; street < 16; street++) {
        C.due("shut is " + s + ", " + street, x.far(101 + 20 * street, 101 + 20 * street), street == s ? NONE : 0);
      }
      C.due("its spots", x.count(6), 12 + 15 * 11);
      x.force(NONE);
      C.due("open again is " + s, x.far(101 + 20 * s, 111 + 20 * s), 10);
      C.due("all spots behind " + s, x.count(6), 12 + 16 * 11);
    }
  }

  /** "new ones (without people (..))", "Streets that are opened have no SPOTS." */
  private static void opensWithoutPeopleAndSpots() {
    TwoBakers x = in("corner a people 1;corner b;corner c;street a b 3 people 1;");
    forceLaw(x, "open b c 12;");
    C.due("spots", x.count(6), 5);
    C.due("people", x.count(7), 24 * 4);
    C.due("no spot", x.far(121, 121), NONE);
    C.due("no seller there", x.seller(121, 10, 0, 0, 0), NONE);
    C.due("told as told", x.told(1), 1);
    C.due("no street told", x.told(304), NONE);
    x.seller(2, 10, 0, 0, 0);
    C.due("but a way", x.sold(0), 24 * 4);
  }

  /** "the last "apart" holds; the last "price" is every SELLER's PRICE" */
  private static void lastApartAndPriceHold() {
    TwoBakers x = in("corner a people 1;corner b;street a b 5;ask 3 9;");
    x.seller(0, 3, 0, 0, 2);
    x.seller(1, 4, 0, 1, 2);
    forceLaw(x, "apart 6;apart 5;price 9;price 8;");
    C.due("apart 5", x.rests(0, 1, NONE, NONE), 2);
    C.due("price 8", x.of(0, 1), 8);
    C.due("price 8 of the other", x.of(1, 1), 8);
    C.due("earns by it", x.earns(0), 24 * 8);
    forceLaw(x, "apart 5;apart 6;");
    C.due("apart 6", x.rests(0, 1, NONE, NONE), 0);
    C.due("no price", x.of(1, 1), 4);
    forceLaw(x, "apart 6;apart 0;");
    C.due("apart 0", x.lead(0, 1, 0), 0);
    C.due("apart 0: the answer", x.lead(0, 1, 1), 0);
    x.seller(0, 9, 0, 2, 2);
    forceLaw(x, "price 3;");
    C.due("of one told since, too", x.of(2, 1), 3);
    C.due("who share then", x.buys(0), 5);
  }

  /** "nobody buys there; the people of such a street buy nothing and walk nowhere; no MOVES go there" */
  private static void shutStreetsSellAndWalkNothing() {
    TwoBakers x = in("corner a people 2;corner b people 3;street a b 4 people 5;corner c people 1;street b c 1;");
    x.seller(102, 10, 0, 0, 0);
    x.seller(1, 10, 0, 1, 0);
    forceLaw(x, "shut a b;");
    C.due("nobody buys there", x.sold(0), 0);
    C.due("people of it buy nothing", x.sold(1), 24 * 4);
    C.due("who is at home", x.home(), 24 * 2);
    C.due("all people", x.count(7), 24 * 6);
    C.due("it would go to a corner", x.best(0, 0), 0);
    C.due("the other goes nowhere on it", x.best(1, 0), 1);
    C.due("a seller may be told there", x.seller(101, 10, 0, 2, 2), 2);
    C.due("and put there", x.put(1, 103, 10), true);
    C.due("nobody buys there, either", x.sold(1), 0);
    C.due("all are at home", x.home(), 24 * 6);
    x.force(NONE);
    C.due("without the law they do", x.home(), 0);
  }

  /** "no MOVES go there", though a CHAIN would have more of it, and "or where it is", though it's shut. */
  private static void shutStreetsAreNoWayOut() {
    TwoBakers x = in("corner a people 9;corner b;street a b 2;ask 5 9;");
    x.seller(0, 9, 0, 0, 2);
    x.seller(0, 5, 0, 0, 0);
    forceLaw(x, "shut a b;open a b 1;");
    C.due("no spot where it sells nothing", x.best(1, 0), 0);
    C.due("it has all for 5", x.best(1, 1), 9 * 24 * 5);
    C.due("all are at rest", x.rest(), NONE);
    x.put(1, 101, 5);
    C.due("it stays on a shut street", x.best(1, 0), 101);
    C.due("the other has all for 9", x.best(1, 1), 9 * 24 * 9);
    C.due("all are at rest so, too", x.rest(), NONE);
    C.due("nobody turns", x.turn(1), false);
    forceLaw(x, "shut a b;");
    x.put(1, 0, 5);
    C.due("to a corner without a way", x.best(1, 0), 1);
  }

  /** "of several the first, no LAW ahead of all" */
  private static void bestLawNoLawAhead() {
    TwoBakers x = two(PAIR, 0, 0);
    long[] none = {9, 40, 1};
    for (int what = 0; what < 3; what++) {
      C.due("without laws: " + what, x.bestLaw(0, 1, what), none[what]);
    }
    Check.law(x, "");
    Check.law(x, "price 10;");
    C.due("no law ahead of those alike", x.bestLaw(0, 1, 0), 9);
    Check.law(x, "apart 1;");
    Check.law(x, "apart 1;price 10;");
    C.due("of several the first", x.bestLaw(0, 1, 0), 2);
    C.due("its walk", x.bestLaw(0, 1, 1), 0);
    C.due("its rests", x.bestLaw(0, 1, 2), 2);
    for (int law = NONE; law < 4; law++) {
      x.force(law);
      C.due("rests ahead of it: " + law, x.rests(0, 1, NONE, NONE), law < 2 ? 1 : 2);
      C.due("whichever is in force: " + law, x.bestLaw(0, 1, 0), 2);
      C.due("it stays in force: " + law, x.count(3), law);
      C.due("its rests stay: " + law, x.rests(0, 1, NONE, NONE), law < 2 ? 1 : 2);
    }
    TwoBakers y = two(PAIR, 0, 0);
    forceLaw(y, "shut a b;");
    Check.law(y, "apart 1;");
    C.due("rests ahead of it", y.rests(0, 1, NONE, NONE), 2);
    C.due("it is the first of the best", y.bestLaw(0, 1, 0), 0);
    C.due("its way stays shut", y.far(0, 1), NONE);
    C.due("who sells by it", y.sold(0), 9 * 12);
    C.due("rests behind it", y.rests(0, 1, NONE, 0), 16);
    y.put(0, 1, 10);
    C.due("asked behind a change", y.bestLaw(0, 1, 0), 0);
    C.due("its way is still shut", y.walk(0, NONE), NONE);
  }

  /** "of no LAW and each LAW" */
  private static void bestLawOfNine() {
    TwoBakers x = two(PAIR, 0, 0);
    for (int i = 0; i < 8; i++) {
      Check.law(x, "price 10;");
    }
    C.due("eight that change nothing", x.bestLaw(0, 1, 0), 9);
    C.due("the ninth", Check.law(x, "apart 1;"), 8);
    C.due("is the best", x.bestLaw(0, 1, 0), 8);
    C.due("by its rests", x.bestLaw(0, 1, 2), 2);
  }

  /** "the least WALK of x's and y's corners (..) in some REST of x, y on CORNERS" */
  private static void bestLawOfRests() {
    TwoBakers x = two("corner a people 8;corner b people 8;corner c people 1;street a b 4;street b c 1;", 0, 0);
    C.due("rests", x.rests(0, 1, NONE, NONE), 1);
    C.due("both at b", x.rests(0, 1, NONE, 0), 256 + 16);
    C.due("no law: walk", x.bestLaw(0, 1, 1), 8 * 33);
    Check.law(x, "apart 5;");
    C.due("far apart: at a and c", x.bestLaw(0, 1, 0), 0);
    C.due("far apart: walk", x.bestLaw(0, 1, 1), 8 * 8);
    Check.law(x, "apart 2;");
    C.due("less far apart: at a and b", x.bestLaw(0, 1, 0), 1);
    C.due("less far apart: walk", x.bestLaw(0, 1, 1), 8);
    C.due("less far apart: rests, those at a and c, too", x.bestLaw(0, 1, 2), 4);
    x = two("corner a people 8;corner b people 8;corner c people 1;street a b 1;", 0, 0);
    x.seller(2, 10, 0, 3, 2);
    Check.law(x, "open b c 1;");
    C.due("by the law's own walk", x.bestLaw(0, 1, 0), 0);
  }

  /** "of x's and y's corners alone", "(all others as they are there)" */
  private static void bestLawAlone() {
    TwoBakers x = two(PAIR, 0, 0);
    x.seller(1, 10, 0, 2, 2);
    C.due("a third at b isn't walked to", x.bestLaw(0, 1, 1), 40);
    C.due("a third at b: rests", x.bestLaw(0, 1, 2), 1);
    x.put(2, 0, 10);
    C.due("a third at a: one goes to b", x.bestLaw(0, 1, 1), 0);
    C.due("a third at a: rests", x.bestLaw(0, 1, 2), 2);
    Check.law(x, "apart 1;");
    C.due("a third at a bars all rows by the law", x.bestLaw(0, 1, 0), 9);
    C.due("of the others", x.bestLaw(0, 2, 1), 0);
    C.due("of the others: rests", x.bestLaw(0, 2, 2), 2);
    C.due("of the first again", x.bestLaw(0, 1, 2), 2);
    C.due("of y, x", x.bestLaw(1, 0, 0), 9);
  }

  /** A REST whose WALK is none is no way of least WALK. */
  private static void bestLawWhereSomebodyCantCome() {
    TwoBakers x = two("corner a people 9;corner b people 1;corner c people 1;street a b 1;", 0, 0);
    C.due("a rest", x.rests(0, 1, NONE, NONE), 1);
    C.due("but somebody can't come", x.bestLaw(0, 1, 0), NONE);
    Check.law(x, "open b c 1;");
    C.due("by the law all can", x.bestLaw(0, 1, 0), 0);
    C.due("its walk", x.bestLaw(0, 1, 1), 24);
    x = two("corner a people 5;corner b people 5;street a b 1;", 0, 0);
    Check.law(x, "shut a b;");
    C.due("no law", x.bestLaw(0, 1, 1), 0);
    C.due("no law: rests", x.bestLaw(0, 1, 2), 4);
    x.force(0);
    C.due("by the law", x.rests(0, 1, NONE, NONE), 2);
    x = two("corner a people 1;corner b people 1;corner c;street a c 2;home 9;", 0, 0);
    C.due("nobody buys: all are rests", x.rests(0, 1, NONE, NONE), 9);
    C.due("at a both: somebody can't come", x.walk(0, 0), NONE);
    C.due("at b both: somebody can't come", x.walk(1, 1), NONE);
    long[] some = {9, 0, 9};
    for (int what = 0; what < 3; what++) {
      C.due("by some of them all can: " + what, x.bestLaw(0, 1, what), some[what]);
    }
  }

  /** "none, if none has a REST" */
  private static void bestLawNone() {
    TwoBakers x = two(CAT, 2, 0);
    Check.law(x, "apart 6;");
    for (int what = 0; what < 3; what++) {
      C.due("none: " + what, x.bestLaw(0, 1, what), NONE);
    }
    Check.law(x, "apart 5;");
    long[] due = {1, 0, 2};
    for (int what = 0; what < 3; what++) {
      C.due("one has: " + what, x.bestLaw(0, 1, what), due[what]);
    }
  }

  /** "NONE: none, none such." */
  private static void bestLawNoneSuch() {
    TwoBakers x = two(PAIR, 0, 0);
    int[] nobody = {LEAST, -1, 2, 3, 4, MOST};
    for (int n : nobody) {
      C.due("x is " + n, x.bestLaw(n, 1, 0), NONE);
      C.due("y is " + n, x.bestLaw(0, n, 0), NONE);
    }
    C.due("alike", x.bestLaw(0, 0, 0), NONE);
    int[] wrong = {LEAST, -1, 3, MOST};
    for (int what : wrong) {
      C.due("what is " + what, x.bestLaw(0, 1, what), NONE);
    }
  }

  /** "SHIFT of people from corner a to corner b: the least number (..) by which SELLERS at REST aren't so any more" */
  private static void shiftLeast() {
    TwoBakers x = two(PAIR, 0, 0);
    C.due("three make b better", x.shift(0, 1), 3);
    C.due("nobody went", x.told(100), 9);
    C.due("nobody came", x.told(101), 5);
    x = two("corner a people 7;corner b people 7;street a b 1;", 0, 0);
    C.due("alike: the next one", x.shift(0, 1), 1);
    C.due("the other way nobody would", x.shift(1, 0), NONE);
    x.seller(0, 10, 0, 2, 0);
    C.due("not at rest", x.shift(0, 1), NONE);
    x = in("corner a people 98;corner b;ask 1 1;home 1;");
    x.seller(0, 1, 0, 0, 0);
    C.due("half of ninety-eight and one", x.shift(0, 1), 50);
    x = in("corner a people 8;corner b people 5;corner c;home 10;");
    x.seller(1, 10, 0, 0, 0);
    x.seller(0, 10, 0, 1, 0);
    C.due("the first stays where it is while the second thinks", x.shift(0, 2), 5);
    x = in("corner a people 9;corner b people 9;corner c people 9;corner d people 9;home 10;");
    for (int i = 0; i < 4; i++) {
      x.seller(i, 10, 0, i, 0);
    }
    C.due("four, each alone: at rest", x.rest(), NONE);
    C.due("a half of more than the rest of its own", x.shift(0, 3), 4);
    C.due("the last one's", x.shift(3, 0), 4);
  }

  /** "(1 to those at a)", "none" */
  private static void shiftToAllOfThem() {
    int[] alone = {2, 2, 2, 1};
    int[] along = {2, 3, 3, NONE};
    for (int extra = 0; extra < 4; extra++) {
      TwoBakers x = in("corner a people 3;corner b;corner c people " + extra + ";street a c 1;home 10;");
      x.seller(0, 10, 0, 0, 0);
      C.due("c is for itself: " + extra, x.shift(0, 1), alone[extra]);
      x = in("corner a people 3;corner b;corner c people " + extra + ";street a c 1;home 11;");
      x.seller(0, 10, 0, 0, 0);
      C.due("c serves along: " + extra, x.shift(0, 1), along[extra]);
    }
    TwoBakers x = in("corner a people 1;corner b;");
    x.seller(0, 10, 0, 0, 0);
    C.due("one, and that's all", x.shift(0, 1), 1);
    C.due("from where nobody is", x.shift(1, 0), NONE);
    x = in("corner a people 99;corner b people 99;");
    x.seller(0, 10, 0, 0, 0);
    C.due("from one to another of the most", x.shift(0, 1), 1);
    C.due("to where it is", x.shift(1, 0), NONE);
    C.due("to itself", x.shift(0, 0), NONE);
  }

  /** SHIFT of SELLERS of KIND 1 and 2. */
  private static void shiftOfPrices() {
    TwoBakers x = in("corner a people 4;corner b people 4;street a b 3;ask 5 9;home 9;");
    x.seller(0, 6, 0, 0, 1);
    C.due("at rest", x.rest(), NONE);
    C.due("two more beside it let it ask more", x.shift(1, 0), 2);
    C.due("none the other way", x.shift(0, 1), NONE);
    forceLaw(x, "price 6;");
    C.due("a law's price stays", x.shift(1, 0), NONE);
    x = in("corner a people 4;corner b people 4;");
    x.seller(0, 10, 0, 0, 2);
    C.due("who stays is always at rest", x.shift(0, 1), NONE);
  }

  /** SHIFT goes by what the CHAIN EARNS. */
  private static void shiftOfAChain() {
    TwoBakers x = in("corner a people 30;corner b;home 10;");
    x.seller(0, 10, 0, 0, 0);
    x.seller(0, 10, 0, 0, 2);
    x.seller(0, 10, 0, 1, 2);
    C.due("two thirds, or a half and those", x.shift(0, 1), 5);
    x = in("corner a people 30;corner b;home 10;");
    x.seller(0, 10, 0, 1, 2);
    x.seller(0, 10, 0, 0, 2);
    x.seller(0, 10, 0, 0, 0);
    C.due("whichever number they have", x.shift(0, 1), 5);
    x.force(NONE);
    x.put(0, 1, 10);
    C.due("half of b is more than none of a", x.rest(), NONE);
    C.due("the chain has a alone already", x.shift(0, 1), 1);
  }

  /** "NONE: (..) not at REST." */
  private static void shiftNotAtRest() {
    TwoBakers x = in("corner a people 2;corner b people 9;");
    x.seller(0, 10, 0, 0, 0);
    C.due("it would rather", x.rest(), 0);
    C.due("not at rest", x.shift(1, 0), NONE);
    x.seller(1, 10, 0, 1, 2);
    x.put(0, 1, 10);
    C.due("at rest", x.rest(), NONE);
    C.due("half of nine less those against two and those", x.shift(1, 0), 2);
    x.put(0, 0, 10);
    C.due("the first isn't at rest again", x.shift(0, 1), NONE);
    x = in("corner a people 2;corner b people 9;");
    x.seller(1, 10, 0, 0, 0);
    x.seller(0, 10, 0, 1, 0);
    C.due("the last isn't at rest", x.rest(), 1);
    C.due("so none", x.shift(1, 0), NONE);
    x = in("corner a people 9;corner b people 5;corner c;home 10;");
    x.seller(2, 10, 0, 0, 2);
    x.seller(0, 10, 0, 1, 0);
    C.due("who stays is at rest, wherever others would sell more", x.shift(0, 1), 3);
  }

  /** "NONE: none, none such" */
  private static void shiftNoneSuch() {
    TwoBakers x = in(PAIR);
    C.due("no sellers", x.shift(0, 1), NONE);
    x.seller(0, 10, 0, 0, 0);
    x.seller(0, 10, 0, 1, 0);
    int[] none = {LEAST, -1, 2, 12, 101, MOST};
    for (int corner : none) {
      C.due("from " + corner, x.shift(corner, 1), NONE);
      C.due("to " + corner, x.shift(0, corner), NONE);
    }
    C.due("from a to b", x.shift(0, 1), 3);
  }

  /** "IMAGES, up to 4", "An IMAGE: its number. NONE: 4 are there, no SELLERS." */
  private static void imagesFourAtMost() {
    TwoBakers x = in(PAIR);
    C.due("no sellers", x.image(), NONE);
    C.due("no image", x.count(4), 0);
    x.seller(0, 10, 0, 0, 0);
    for (int i = 0; i < 4; i++) {
      C.due("image " + i, x.image(), i);
      x.put(0, 1 - i % 2, 10);
    }
    C.due("a fifth", x.image(), NONE);
    C.due("four", x.count(4), 4);
    C.due("the last one back", x.back(3), true);
    C.due("isn't the fifth", x.of(0, 0), 1);
    C.due("still four", x.image(), NONE);
  }

  /** "SELLERS and the LAW in force as they are; brought back at any time" */
  private static void imagesAsTheyAre() {
    TwoBakers x = in("corner a people 9;corner b people 5;street a b 1;ask 5 10;");
    x.seller(0, 5, 0, 1, 0);
    Check.law(x, "price 9;shut a b;");
    C.due("without a law", x.image(), 0);
    x.force(0);
    x.put(0, 1, 6);
    C.due("with a law", x.image(), 1);
    for (int round = 0; round < 3; round++) {
      C.due("back 0", x.back(0), true);
      C.due("spot", x.of(0, 0), 0);
      C.due("price", x.of(0, 1), 5);
      C.due("law", x.count(3), NONE);
      C.due("way", x.far(0, 1), 1);
      C.due("sold", x.sold(0), 14 * 24);
      x.put(0, 1, 10);
      C.due("back 1", x.back(1), true);
      C.due("spot by the law", x.of(0, 0), 1);
      C.due("price by the law", x.of(0, 1), 9);
      C.due("law", x.count(3), 0);
      C.due("way by the law", x.far(0, 1), NONE);
      C.due("sold by the law", x.sold(0), 5 * 24);
      x.force(NONE);
      C.due("its own price", x.of(0, 1), 6);
    }
    C.due("laws stay", x.count(2), 1);
    C.due("images stay", x.count(4), 2);
    C.due("the town stays", x.count(0), 1);
  }

  /** "(SELLERS told since are gone)" */
  private static void imagesGoneSince() {
    TwoBakers x = in(PAIR);
    x.seller(0, 10, 0, 0, 0);
    x.image();
    x.seller(1, 10, 2, 3, 2);
    x.image();
    Check.law(x, "apart 1;");
    x.back(0);
    C.due("gone", x.count(1), 1);
    C.due("gone, too", x.of(1, 0), NONE);
    C.due("a law told since isn't", x.count(2), 1);
    C.due("told anew", x.seller(0, 10, 1, 1, 1), 1);
    C.due("back to both", x.back(1), true);
    int[] second = {1, 10, 2, 3, 2};
    for (int what = 0; what < 5; what++) {
      C.due("as it was: " + what, x.of(1, what), second[what]);
    }
    for (int i = 2; i < 4; i++) {
      x.seller(1, 10, 0, 0, 0);
    }
    C.due("four", x.count(1), 4);
    x.back(0);
    C.due("room again", x.seller(0, 10, 0, 0, 0), 1);
  }

  /** "true; false: none such." */
  private static void backNoneSuch() {
    TwoBakers x = in(PAIR);
    x.seller(0, 10, 0, 0, 0);
    C.due("none yet", x.back(0), false);
    x.image();
    x.put(0, 1, 10);
    int[] none = {LEAST, -1, 1, 3, 4, MOST};
    for (int image : none) {
      C.due("back " + image, x.back(image), false);
    }
    C.due("doing nothing", x.of(0, 0), 1);
  }

  /** "6 SPOTS that there are (on streets that aren't shut), 7 all people's PARTS (likewise)" */
  private static void countsOfAll() {
    TwoBakers x = in("corner a people 1;corner b people 2;corner c;street a b 3 people 4;street b c 1 people 5;step 2;");
    int[] due = {1, 0, 0, NONE, 0, 0, 5, 48 * 20};
    for (int what = 0; what < 8; what++) {
      C.due("count " + what, x.count(what), due[what]);
    }
    x.seller(0, 10, 0, 0, 0);
    x.image();
    forceLaw(x, "shut a b;");
    int[] then = {1, 1, 1, 0, 1, 0, 3, 48 * 8};
    for (int what = 0; what < 8; what++) {
      C.due("count then " + what, x.count(what), then[what]);
    }
    forceLaw(x, "shut b c;");
    C.due("a street without spots", x.count(6), 5);
    C.due("but with people", x.count(7), 48 * 15);
    Check.feed(x, "corner z;");
    C.due("bytes", x.count(5), 20);
    x.town(9);
    C.due("towns", x.count(0), 2);
    x.feed(0, 0, 0, 0, 0);
    x.town(20);
    C.due("towns taken alone", x.count(0), 2);
  }

  /** As much of a TOWN as may be told: 12 corners, 16 streets, the last of which alone goes to the last corner. */
  private static void fullTown() {
    TwoBakers x = in(fullText());
    C.due("spots", x.count(6), 12 + 16 * 11);
    C.due("people", x.count(7), 24 * 5 * (7 + 16 * 12));
    C.due("at home", x.home(), 24 * 5 * (7 + 16 * 12));
    x.seller(0, 15, 2, 0, 0);
    x.seller(11, 15, 0, 1, 2);
    C.due("beside the last corner's baker", x.best(0, 0), 11);
    forceLaw(x, "apart 1;");
    C.due("the very last spot", x.best(0, 0), 411);
    C.due("what it earns there", x.best(0, 1), 15 * 24 * 5 * 7);
    C.due("the first would", x.rest(), 0);
    C.due("turn", x.turn(0), true);
    C.due("it's there", x.of(0, 0), 411);
    C.due("people of the last corner", x.sold(0), 24 * 5 * 7);
    x.seller(410, 15, 0, 2, 2);
    x.seller(409, 15, 1, 3, 2);
    C.due("four at rest", x.rest(), NONE);
    C.due("at rest in a chase", x.chase(60, 0), 0);
    C.due("the last one's spot", x.chase(60, 13), 409);
    C.due("who buys at the last corner", x.buys(11), 1);
    C.due("nobody buys elsewhere", x.home(), 24 * 5 * 16 * 12);
    C.due("shift from where nobody is", x.shift(0, 11), NONE);
    C.due("shift to where nobody likes it", x.shift(11, 10), NONE);
    C.due("walk of the last", x.walk(11, NONE) > 0, true);
    C.due("shut the last one", Check.law(x, "shut k l;"), 1);
    x.force(1);
    C.due("no spot on it", x.count(6), 12 + 15 * 11);
    C.due("its people are out", x.count(7), 24 * 5 * (7 + 15 * 12));
    C.due("nobody comes to the last corner", x.walk(0, NONE), NONE);
    C.due("sold to nobody", x.sold(3), 0);
    C.due("the way back to the last corner", x.best(0, 0), 11);
  }

  /** Streets of 12 steps: a ring of eleven corners, four across, and one from the eleventh to the twelfth. */
  private static String fullText() {
    StringBuilder text = new StringBuilder();
    for (int k = 0; k < 11; k++) {
      text.append("corner ").append((char) ('a' + k)).append(";");
    }
    text.append("corner l people 7 like rye 20;");
    for (int s = 0; s < 15; s++) {
      int from = s % 11;
      text.append("street ").append((char) ('a' + from)).append(' ').append((char) ('a' + (from + (s < 11 ? 1 : 4)) % 11)).append(" 12 people 1;");
    }
    return text.append("street k l 12 people 1;step 5;home 0;ask 15 15;").toString();
  }

  /** "NONE for others." */
  private static void countNoneSuch() {
    TwoBakers x = in(PAIR);
    int[] wrong = {LEAST, -1, 8, 9, 100, MOST};
    for (int what : wrong) {
      C.due("count " + what, x.count(what), NONE);
    }
  }

  /** Every call answers by what is there now: nothing that was reckoned before a change is told behind it. */
  private static void nothingIsOld() {
    TwoBakers x = in("corner a people 9;corner b people 5;street a b 1;ask 9 10;");
    x.seller(1, 10, 0, 0, 0);
    x.seller(1, 10, 0, 1, 2);
    C.due("before: rounds", x.chase(5, 1), 2);
    C.due("before: spot", x.chase(5, 10), 0);
    C.due("before: prices", x.prices(0, 1, 0), 909);
    C.due("before: rests", x.rests(0, 1, NONE, NONE), 1);
    C.due("before: lead", x.lead(0, 1, 1), 0);
    C.due("before: bestLaw", x.bestLaw(0, 1, 0), 9);
    x.turn(0);
    C.due("turned: rounds", x.chase(5, 1), 1);
    x.put(0, 1, 9);
    C.due("put: price", x.chase(5, 20), 9);
    C.due("put: spot", x.chase(4, 10), 1);
    x.put(0, 1, 10);
    x.turn(0);
    C.due("put and turned: spot", x.chase(4, 10), 0);
    x.put(0, 1, 10);
    Check.law(x, "apart 1;price 9;");
    C.due("told: bestLaw", x.bestLaw(0, 1, 0), 0);
    C.due("told isn't in force: prices", x.prices(0, 1, 0), 909);
    x.image();
    x.force(0);
    C.due("by the law: rests", x.rests(0, 1, NONE, NONE), 2);
    C.due("by the law: lead", x.lead(0, 1, 1), 1);
    x.back(0);
    C.due("back: rests", x.rests(0, 1, NONE, NONE), 1);
    C.due("back: lead", x.lead(0, 1, 1), 0);
    x.seller(0, 9, 0, 2, 2);
    C.due("a third: rests", x.rests(0, 1, NONE, 0) == 0, false);
    Check.town(x, PAIR);
    x.seller(0, 10, 0, 0, 0);
    x.seller(0, 10, 0, 1, 0);
    C.due("another town: rests", x.rests(0, 1, NONE, 0), 0);
    C.due("another town: bestLaw", x.bestLaw(0, 1, 0), 9);
  }
}
