/**
 * Part 3 of the document's Terms, promises 21 to 25: each sentence that names an edge has a method of its own, with its
 * words above it.
 */
public final class EdgesOfGamesTest {
  private static final Check C = new Check("EdgesOfGamesTest");
  private static final int NONE = TwoBakers.NONE;
  private static final int LEAST = Integer.MIN_VALUE;
  private static final int MOST = Integer.MAX_VALUE;
  private static final long NOTHING = -1000000000000L;
  private static final int[] NOBODY = {LEAST, -1, 2, 3, 4, MOST};
  /** Who has the most people at the corner stands there: both of two at a. */
  private static final String PAIR = "corner a people 9;corner b people 5;street a b 1;";
  /** Rye is liked everywhere: who has it wants to stand by the other, who hasn't wants to be away. */
  private static final String CAT = "corner a people 10 like rye 3;corner b people 20 like rye 3;street a b 5;home 100;";
  /** Rye is sold at a alone, brown at b alone. */
  private static final String LIKED = "corner a people 5 like rye 5;corner b people 7 like brown 5;street a b 9;home 5;";
  /** With one at each corner there are no PRICES at rest: who is dear is driven down, who is cheap goes up again. */
  private static final String RESTLESS = "corner a people 3;corner b people 1;street a b 2;ask 2 5;home 7;";

  public static void main(String[] args) {
    gamesWhateverKinds();
    gamesForItself();
    gamesWithOthersAsTheyAre();
    gamesFromAnySpot();
    rowsThatAreLet();
    rowsWithoutAWay();
    restsIfNoneHasMore();
    restsInOrder();
    restsOfAllRows();
    restsOfThree();
    restsNoneSuch();
    lotsOfFour();
    lotsInLowestTerms();
    lotsIfNoneIsARest();
    lotsIfAllAreLet();
    lotsNoneSuch();
    leadOfSeveralTheLeast();
    leadWithAnAnswer();
    leadGain();
    leadNone();
    leadNoneSuch();
    pricesOfAsk();
    pricesOfALaw();
    pricesWithoutRest();
    pricesAtTheirSpots();
    pricesNoneSuch();
    stageFirstRow();
    stageOfEachRow();
    stageIfLet();
    stageWithoutPrices();
    stageOfFirstPrices();
    stageByALaw();
    stageNoneSuch();
    gamesLeaveAllAsItWas();
    gamesAreNotMixedUp();
    C.end();
  }

  private static TwoBakers in(String town) {
    TwoBakers x = new TwoBakers();
    C.due("town " + town, Check.town(x, town) > 0, true);
    return x;
  }

  /** Two who stay, of chains 0 and 1, at corner 0. */
  private static TwoBakers two(String town, int bread, int other) {
    TwoBakers x = in(town);
    int price = x.told(4);
    C.due("the first", x.seller(0, price, bread, 0, 2), 0);
    C.due("the second", x.seller(0, price, other, 1, 2), 1);
    return x;
  }

  private static void forceLaw(TwoBakers x, String text) {
    int law = Check.law(x, text);
    C.due("law " + text, law >= 0, true);
    C.due("in force: " + text, x.force(law), true);
  }

  private static String emptyCorners(int many) {
    StringBuilder text = new StringBuilder();
    for (int k = 0; k < many; k++) {
      text.append("corner ").append((char) ('a' + k)).append(";");
    }
    return text.toString();
  }

  /** "GAMES of SELLERS x, y (and z) (..), whatever KINDS" */
  private static void gamesWhateverKinds() {
    for (int kind = 0; kind < 3; kind++) {
      TwoBakers x = in(PAIR);
      x.seller(1, 10, 0, 0, kind);
      x.seller(1, 10, 0, 1, 2 - kind);
      C.due("rests of kind " + kind, x.rests(0, 1, NONE, NONE), 1);
      C.due("both at a", x.rests(0, 1, NONE, 0), 0);
      C.due("lead of kind " + kind, x.lead(0, 1, 2), 7 * 240);
      C.due("prices of kind " + kind, x.prices(0, 1, NONE), 1);
      C.due("stage of kind " + kind, x.stage(0, 1, 0, 1, 0), 0);
    }
  }

  /** "each for what it EARNS itself" */
  private static void gamesForItself() {
    TwoBakers x = in(PAIR);
    x.seller(0, 10, 0, 2, 2);
    x.seller(0, 10, 0, 2, 2);
    C.due("of one chain, still at a both", x.rests(0, 1, NONE, 0), 0);
    C.due("and only there", x.rests(0, 1, NONE, NONE), 1);
    C.due("x earns half", x.lead(0, 1, 2), 7 * 240);
    x = in("corner a people 6;ask 1 3;");
    x.seller(0, 1, 0, 2, 2);
    x.seller(0, 1, 0, 2, 2);
    C.due("of one chain, prices go down", x.prices(0, 1, 0), 101);
  }

  /** "with all others as they are" */
  private static void gamesWithOthersAsTheyAre() {
    TwoBakers x = two(PAIR, 0, 0);
    x.seller(0, 10, 0, 3, 0);
    C.due("beside one at a", x.rests(0, 1, NONE, NONE), 2);
    C.due("one goes to b", x.rests(0, 1, NONE, 0), 16);
    C.due("or the other", x.rests(0, 1, NONE, 1), 256);
    C.due("who leads stays at b", x.lead(0, 1, 0), 1);
    C.due("and has all of b", x.lead(0, 1, 2), 5 * 240);
    x.put(2, 1, 10);
    C.due("beside one at b", x.rests(0, 1, NONE, NONE), 1);
    C.due("both at a", x.rests(0, 1, NONE, 0), 0);
  }

  /** "on CORNERS: each stands on any corner" */
  private static void gamesFromAnySpot() {
    TwoBakers x = in("corner a people 9;corner b people 5;street a b 3 people 1;");
    x.seller(101, 10, 0, 0, 2);
    x.seller(102, 10, 0, 1, 2);
    C.due("from a street", x.rests(0, 1, NONE, NONE), 1);
    C.due("both at a", x.rests(0, 1, NONE, 0), 0);
    C.due("lead from a street", x.lead(0, 1, 0), 0);
    C.due("lead's earns", x.lead(0, 1, 2), 17 * 120);
    C.due("stage from a street", x.stage(0, 1, 0, 1, 0), 0);
    C.due("lots from a street", x.lots(0, 1, 0, 1, 0), NONE);
  }

  /** "a row is let if all of them have FAR at least APART (..) from one another and from the others" */
  private static void rowsThatAreLet() {
    String town = "corner a;corner b;corner c;street a b 2;street b c 2;";
    int[] twos = {9, 6, 6, 2, 2, 0};
    for (int apart = 0; apart < 6; apart++) {
      TwoBakers x = two(town, 0, 0);
      forceLaw(x, "apart " + apart + ";");
      C.due("two, apart " + apart, x.rests(0, 1, NONE, NONE), twos[apart]);
    }
    int[] others = {9, 2, 2, 0, 0};
    for (int apart = 0; apart < 5; apart++) {
      TwoBakers x = two(town, 0, 0);
      x.seller(1, 10, 0, 2, 0);
      forceLaw(x, "apart " + apart + ";");
      C.due("beside one at b, apart " + apart, x.rests(0, 1, NONE, NONE), others[apart]);
    }
    int[] onStreets = {9, 6, 0, 0, 0};
    for (int apart = 0; apart < 5; apart++) {
      TwoBakers x = two(town, 0, 0);
      x.seller(101, 10, 0, 2, 0);
      forceLaw(x, "apart " + apart + ";");
      C.due("beside one on a street, apart " + apart, x.rests(0, 1, NONE, NONE), onStreets[apart]);
    }
    int[] threes = {27, 6, 6, 0};
    for (int apart = 0; apart < 4; apart++) {
      TwoBakers x = two(town, 0, 0);
      x.seller(1, 10, 0, 2, 0);
      forceLaw(x, "apart " + apart + ";");
      C.due("three, apart " + apart, x.rests(0, 1, 2, NONE), threes[apart]);
    }
  }

  /** "(or none)" */
  private static void rowsWithoutAWay() {
    TwoBakers x = two("corner a;corner b;", 0, 0);
    forceLaw(x, "apart 99;");
    C.due("without a way", x.rests(0, 1, NONE, NONE), 2);
    C.due("x at a, y at b", x.rests(0, 1, NONE, 0), 16);
    x = two("corner a;corner b;street a b 3;", 0, 0);
    x.seller(101, 10, 0, 0, 2);
    forceLaw(x, "apart 99;");
    C.due("with a way", x.rests(0, 1, NONE, NONE), 0);
    forceLaw(x, "apart 99;shut a b;");
    C.due("one on a shut street is no bar", x.rests(0, 1, NONE, NONE), 2);
  }

  /** "RESTS: rows that are let from which none of them has another corner, by which the row is let, that EARNS it more" */
  private static void restsIfNoneHasMore() {
    TwoBakers x = two("corner a people 8;corner b people 8;street a b 1;", 0, 0);
    C.due("as much elsewhere is no bar", x.rests(0, 1, NONE, NONE), 4);
    x = two(PAIR, 0, 0);
    C.due("more for one is a bar", x.rests(0, 1, NONE, NONE), 1);
    forceLaw(x, "apart 1;");
    C.due("but not by a row that isn't let", x.rests(0, 1, NONE, NONE), 2);
    x = two(CAT, 2, 0);
    C.due("none", x.rests(0, 1, NONE, NONE), 0);
    C.due("none has no first", x.rests(0, 1, NONE, 0), NONE);
    x = two(LIKED, 2, 1);
    C.due("x at a, y at b alone", x.rests(0, 1, NONE, NONE), 1);
    C.due("x at a, y at b", x.rests(0, 1, NONE, 0), 16);
    C.due("the other way round", x.rests(1, 0, NONE, 0), 256);
  }

  /** "by x's corner, then y's, then z's", "256 times x's corner and 16 times y's and z's (0 without)" */
  private static void restsInOrder() {
    TwoBakers x = two(emptyCorners(3), 0, 0);
    x.seller(0, 10, 0, 0, 0);
    int k = 0;
    for (int cx = 0; cx < 3; cx++) {
      for (int cy = 0; cy < 3; cy++) {
        C.due("two, " + (3 * cx + cy), x.rests(0, 1, NONE, 3 * cx + cy), 256 * cx + 16 * cy);
        for (int cz = 0; cz < 3; cz++) {
          C.due("three, " + k, x.rests(0, 1, 2, k), 256 * cx + 16 * cy + cz);
          k++;
        }
      }
    }
    C.due("two, no more", x.rests(0, 1, NONE, 9), NONE);
    C.due("three, no more", x.rests(0, 1, 2, 27), NONE);
  }

  /** All twelve corners, for two and for three. */
  private static void restsOfAllRows() {
    TwoBakers x = two(emptyCorners(12), 0, 0);
    x.seller(0, 10, 0, 2, 2);
    C.due("two", x.rests(0, 1, NONE, NONE), 144);
    C.due("two, the last", x.rests(0, 1, NONE, 143), 256 * 11 + 16 * 11);
    C.due("two, no more", x.rests(0, 1, NONE, 144), NONE);
    C.due("three", x.rests(0, 1, 2, NONE), 1728);
    C.due("three, the last", x.rests(0, 1, 2, 1727), 256 * 11 + 16 * 11 + 11);
    C.due("three, no more", x.rests(0, 1, 2, 1728), NONE);
    x = two("corner a people 3;", 0, 0);
    x.seller(0, 10, 0, 2, 2);
    C.due("one corner, two", x.rests(0, 1, NONE, NONE), 1);
    C.due("one corner, three", x.rests(0, 1, 2, 0), 0);
  }

  /** "RESTS on CORNERS of x, y (z NONE) or x, y, z" */
  private static void restsOfThree() {
    TwoBakers x = two(LIKED + "corner c people 3 like white 5;street b c 9;", 2, 1);
    x.seller(0, 10, 0, 2, 2);
    C.due("each where it is liked", x.rests(0, 1, 2, NONE), 1);
    C.due("of x, y, z", x.rests(0, 1, 2, 0), 18);
    C.due("of z, y, x", x.rests(2, 1, 0, 0), 512 + 16);
    C.due("of y, z, x", x.rests(1, 2, 0, 0), 256 + 32);
    C.due("of y, x, z", x.rests(1, 0, 2, 0), 256 + 2);
    C.due("of x, z", x.rests(0, 2, NONE, 0), 32);
    C.due("of z, x", x.rests(2, 0, NONE, 0), 512);
    C.due("of x, y", x.rests(0, 1, NONE, 0), 16);
    C.due("of y, x", x.rests(1, 0, NONE, 0), 256);
  }

  /** "NONE: none such (unlike SELLERS)." */
  private static void restsNoneSuch() {
    TwoBakers x = two(PAIR, 0, 0);
    for (int nobody : NOBODY) {
      C.due("x is " + nobody, x.rests(nobody, 1, NONE, NONE), NONE);
      C.due("y is " + nobody, x.rests(0, nobody, NONE, NONE), NONE);
      if (nobody != NONE) {
        C.due("z is " + nobody, x.rests(0, 1, nobody, NONE), NONE);
      }
    }
    C.due("y as x", x.rests(0, 0, NONE, NONE), NONE);
    C.due("z as x", x.rests(0, 1, 0, NONE), NONE);
    C.due("z as y", x.rests(0, 1, 1, NONE), NONE);
    int[] ks = {LEAST, -2, 1, MOST};
    for (int k : ks) {
      C.due("k is " + k, x.rests(0, 1, NONE, k), NONE);
    }
    C.due("the first", x.rests(0, 1, NONE, 0), 0);
    x.seller(0, 10, 0, 0, 0);
    C.due("y as x of three", x.rests(2, 2, 0, NONE), NONE);
    C.due("three", x.rests(2, 1, 0, NONE), 3);
  }

  /** "x takes a in P of Q cases so that y is alike at a and b", "y's likewise by x's" */
  private static void lotsOfFour() {
    TwoBakers x = two(CAT, 2, 0);
    long[] due = {1, 3, 2, 3};
    long[] turned = {2, 3, 1, 3};
    for (int what = 0; what < 4; what++) {
      C.due("a, b: " + what, x.lots(0, 1, 0, 1, what), due[what]);
      C.due("b, a: " + what, x.lots(0, 1, 1, 0, what), turned[what]);
      C.due("y, x: " + what, x.lots(1, 0, 0, 1, what), turned[what]);
    }
    x = two("corner a people 1;corner b people 3 like rye 3;street a b 4;home 12;", 2, 1);
    long[] unlike = {2, 7, 4, 5};
    for (int what = 0; what < 4; what++) {
      C.due("of unlike sums: " + what, x.lots(0, 1, 0, 1, what), unlike[what]);
    }
  }

  /** "in lowest terms, Q above 0" */
  private static void lotsInLowestTerms() {
    TwoBakers x = two("corner a people 15 like rye 3;corner b people 15 like rye 3;street a b 5;home 100;", 2, 0);
    long[] due = {1, 2, 1, 2};
    for (int what = 0; what < 4; what++) {
      C.due("halves: " + what, x.lots(0, 1, 0, 1, what), due[what]);
    }
    x = two("corner a people 98 like rye 3;corner b people 97 like rye 3;street a b 5;home 100;", 2, 0);
    long[] odd = {98, 195, 97, 195};
    for (int what = 0; what < 4; what++) {
      C.due("without a common part: " + what, x.lots(0, 1, 0, 1, what), odd[what]);
    }
  }

  /** "if (..) none is a rest of these four" */
  private static void lotsIfNoneIsARest() {
    TwoBakers pair = two(PAIR, 0, 0);
    TwoBakers liked = two(LIKED, 2, 1);
    for (int what = 0; what < 4; what++) {
      C.due("aa is one: " + what, pair.lots(0, 1, 0, 1, what), NONE);
      C.due("bb is one: " + what, pair.lots(0, 1, 1, 0, what), NONE);
      C.due("ab is one: " + what, liked.lots(0, 1, 0, 1, what), NONE);
      C.due("ba is one: " + what, liked.lots(0, 1, 1, 0, what), NONE);
    }
    TwoBakers x = two(CAT + "corner c people 99;", 2, 0);
    C.due("of these four, though there's one elsewhere", x.lots(0, 1, 0, 1, 1), 3);
    C.due("elsewhere", x.lots(0, 1, 0, 2, 1), NONE);
  }

  /** "if all four rows are let" */
  private static void lotsIfAllAreLet() {
    TwoBakers x = two(CAT, 2, 0);
    forceLaw(x, "apart 0;");
    C.due("apart 0", x.lots(0, 1, 0, 1, 1), 3);
    forceLaw(x, "apart 1;");
    C.due("aa and bb aren't", x.lots(0, 1, 0, 1, 1), NONE);
    x.seller(0, 10, 0, 3, 2);
    C.due("beside another", x.lots(0, 1, 0, 1, 1), NONE);
  }

  /** "NONE: none, none such (unlike corners)." */
  private static void lotsNoneSuch() {
    TwoBakers x = two(CAT, 2, 0);
    for (int nobody : NOBODY) {
      C.due("x is " + nobody, x.lots(nobody, 1, 0, 1, 0), NONE);
      C.due("y is " + nobody, x.lots(0, nobody, 0, 1, 0), NONE);
      C.due("a is " + nobody, x.lots(0, 1, nobody, 1, 0), NONE);
      C.due("b is " + nobody, x.lots(0, 1, 0, nobody, 0), NONE);
    }
    C.due("a street's spot", x.lots(0, 1, 0, 101, 0), NONE);
    C.due("alike sellers", x.lots(1, 1, 0, 1, 0), NONE);
    C.due("alike corners", x.lots(0, 1, 0, 0, 0), NONE);
    C.due("alike corners b", x.lots(0, 1, 1, 1, 3), NONE);
    int[] wrong = {LEAST, -1, 4, MOST};
    for (int what : wrong) {
      C.due("what is " + what, x.lots(0, 1, 0, 1, what), NONE);
    }
  }

  /** "the corner that EARNS y most (of several the least)", "the corner (..) by which x EARNS most then, of several the least" */
  private static void leadOfSeveralTheLeast() {
    TwoBakers x = two(emptyCorners(12), 0, 0);
    long[] due = {0, 0, 0, 0, 0};
    for (int what = 0; what < 5; what++) {
      C.due("nobody lives here: " + what, x.lead(0, 1, what), due[what]);
    }
    x = two("corner a people 1;corner b people 6;corner c people 6;corner d people 6;", 0, 0);
    C.due("x's of three", x.lead(0, 1, 0), 1);
    C.due("y's of two others", x.lead(0, 1, 1), 2);
    C.due("x earns", x.lead(0, 1, 2), 6 * 240);
    C.due("y earns", x.lead(0, 1, 3), 6 * 240);
    C.due("no gain", x.lead(0, 1, 4), 0);
  }

  /** "of those by which the row is let; x takes the corner (with an answer)" */
  private static void leadWithAnAnswer() {
    TwoBakers x = two("corner a people 1;corner b people 9;corner c people 2;street a b 2;street b c 2;", 0, 0);
    C.due("without a law at b", x.lead(0, 1, 0), 1);
    C.due("the answer at b, too", x.lead(0, 1, 1), 1);
    forceLaw(x, "apart 1;");
    C.due("apart 1: at b", x.lead(0, 1, 0), 1);
    C.due("apart 1: the answer at c", x.lead(0, 1, 1), 2);
    forceLaw(x, "apart 3;");
    C.due("at b there's no answer", x.lead(0, 1, 0), 2);
    C.due("the answer at a", x.lead(0, 1, 1), 0);
    C.due("x earns", x.lead(0, 1, 2), 13 * 120);
    C.due("y earns", x.lead(0, 1, 3), 11 * 120);
    C.due("x's gain by it", x.lead(0, 1, 4), 2 * 120);
  }

  /** "GAIN: what x EARNS so less what it EARNS if y LEADS." */
  private static void leadGain() {
    TwoBakers x = two(CAT, 2, 0);
    long[] due = {1, 0, 4800, 2400, -2400};
    long[] turned = {0, 0, 0, 7200, -2400};
    for (int what = 0; what < 5; what++) {
      C.due("x leads: " + what, x.lead(0, 1, what), due[what]);
      C.due("y leads: " + what, x.lead(1, 0, what), turned[what]);
    }
  }

  /** "-1,000,000,000,000: none" */
  private static void leadNone() {
    TwoBakers x = two("corner a people 1;corner b people 1;street a b 3;", 0, 0);
    forceLaw(x, "apart 3;");
    C.due("just let", x.lead(0, 1, 0), 0);
    C.due("the answer", x.lead(0, 1, 1), 1);
    forceLaw(x, "apart 4;");
    for (int what = 0; what < 5; what++) {
      C.due("no row is let: " + what, x.lead(0, 1, what), NOTHING);
    }
    x = two("corner a people 1;", 0, 0);
    C.due("one corner", x.lead(0, 1, 2), 120);
    forceLaw(x, "apart 1;");
    C.due("one corner, apart", x.lead(0, 1, 2), NOTHING);
  }

  /** "-1,000,000,000,000: (..) none such." */
  private static void leadNoneSuch() {
    TwoBakers x = two(PAIR, 0, 0);
    for (int nobody : NOBODY) {
      C.due("x is " + nobody, x.lead(nobody, 1, 0), NOTHING);
      C.due("y is " + nobody, x.lead(0, nobody, 0), NOTHING);
    }
    C.due("alike", x.lead(0, 0, 0), NOTHING);
    int[] wrong = {LEAST, -1, 5, MOST};
    for (int what : wrong) {
      C.due("what is " + what, x.lead(0, 1, what), NOTHING);
    }
  }

  /** "pairs of PRICES of ASK (..) from which neither has another one that EARNS it more; by x's, then y's" */
  private static void pricesOfAsk() {
    TwoBakers x = two("corner a;ask 40 60;", 0, 0);
    C.due("nobody lives here", x.prices(0, 1, NONE), 441);
    for (int k = 0; k < 441; k += 20) {
      C.due("the " + k, x.prices(0, 1, k), 100 * (40 + k / 21) + 40 + k % 21);
    }
    C.due("the last", x.prices(0, 1, 440), 6060);
    C.due("no more", x.prices(0, 1, 441), NONE);
    x = two("corner a people 6;ask 0 3;", 0, 0);
    int[] due = {3, 0, 101, 202, NONE};
    for (int k = NONE; k < 4; k++) {
      C.due("down to nothing: " + k, x.prices(0, 1, k), due[k + 1]);
    }
    x = two("corner a people 6;corner b people 2;ask 5 25;home 20;", 0, 0);
    x.put(1, 1, 5);
    C.due("each alone: one pair", x.prices(0, 1, NONE), 1);
    C.due("each alone: as HOME lets", x.prices(0, 1, 0), 2020);
    x = two("corner a people 6;corner b people 2 like rye 4;ask 5 25;home 20;", 0, 2);
    x.put(1, 1, 5);
    C.due("y's is liked", x.prices(0, 1, 0), 2024);
    C.due("y and x", x.prices(1, 0, 0), 2420);
    x = two("corner a people 6;ask 7 7;", 0, 0);
    C.due("one price", x.prices(0, 1, 0), 707);
    C.due("one pair", x.prices(0, 1, NONE), 1);
  }

  /** "(by a LAW's "price" that alone)" */
  private static void pricesOfALaw() {
    TwoBakers x = two("corner a people 6;ask 0 20;", 0, 0);
    forceLaw(x, "price 20;");
    C.due("one pair", x.prices(0, 1, NONE), 1);
    C.due("the law's", x.prices(0, 1, 0), 2020);
    C.due("no more", x.prices(0, 1, 1), NONE);
    forceLaw(x, "price 0;");
    C.due("a law's 0", x.prices(0, 1, 0), 0);
    forceLaw(x, "apart 5;");
    C.due("a law without a price: they needn't be let", x.prices(0, 1, 0), 0);
    C.due("as without", x.prices(0, 1, 1), 101);
  }

  /** "how many (k NONE)": there may be none. */
  private static void pricesWithoutRest() {
    TwoBakers x = two(RESTLESS, 0, 0);
    x.put(0, 1, 2);
    C.due("none", x.prices(0, 1, NONE), 0);
    C.due("no first", x.prices(0, 1, 0), NONE);
    C.due("none turned round", x.prices(1, 0, NONE), 0);
    x.put(0, 0, 2);
    C.due("on one corner there is", x.prices(0, 1, NONE), 1);
    C.due("the least for both", x.prices(0, 1, 0), 202);
  }

  /** "PRICES of x, y at their SPOTS" */
  private static void pricesAtTheirSpots() {
    TwoBakers x = in("corner a people 4;corner b people 4;street a b 12;home 10;ask 8 12;");
    x.seller(101, 12, 0, 0, 0);
    x.seller(111, 12, 0, 0, 0);
    C.due("each serves its corner a step off", x.prices(0, 1, 0), 909);
    C.due("and that's all", x.prices(0, 1, NONE), 1);
    C.due("their own prices stay", x.of(0, 1), 12);
    x.seller(0, 8, 0, 1, 2);
    C.due("beside another: x sells nothing at any price", x.prices(0, 1, NONE), 5);
    C.due("beside another", x.prices(0, 1, 4), 1209);
  }

  /** "NONE: none such." */
  private static void pricesNoneSuch() {
    TwoBakers x = two("corner a people 6;ask 0 3;", 0, 0);
    for (int nobody : NOBODY) {
      C.due("x is " + nobody, x.prices(nobody, 1, NONE), NONE);
      C.due("y is " + nobody, x.prices(0, nobody, NONE), NONE);
    }
    C.due("alike", x.prices(1, 1, NONE), NONE);
    int[] ks = {LEAST, -2, 3, MOST};
    for (int k : ks) {
      C.due("k is " + k, x.prices(0, 1, k), NONE);
    }
  }

  /** "the first row (aa, ab, ba, bb) from which neither has its other corner (..) that EARNS it more" */
  private static void stageFirstRow() {
    TwoBakers x = two("corner a;corner b;ask 4 6;", 0, 0);
    C.due("all are: the first", x.stage(0, 1, 0, 1, 0), 0);
    C.due("the first prices: x's", x.stage(0, 1, 0, 1, 1), 4);
    C.due("the first prices: y's", x.stage(0, 1, 0, 1, 2), 4);
    x = two("corner a people 6;corner b people 4;street a b 12;step 5;ask 1 3;home 3;", 0, 0);
    C.due("ab and ba are: the first", x.stage(0, 1, 0, 1, 0), 1);
    C.due("b, a: the first", x.stage(0, 1, 1, 0, 0), 1);
    C.due("x's price", x.stage(0, 1, 0, 1, 1), 3);
    C.due("y's price", x.stage(0, 1, 0, 1, 2), 3);
    x = two(CAT, 2, 0);
    for (int what = 0; what < 3; what++) {
      C.due("none: " + what, x.stage(0, 1, 0, 1, what), NONE);
    }
  }

  /** "what 0: 0 aa, 1 ab, 2 ba, 3 bb" */
  private static void stageOfEachRow() {
    TwoBakers x = two(PAIR, 0, 0);
    C.due("aa", x.stage(0, 1, 0, 1, 0), 0);
    C.due("bb", x.stage(0, 1, 1, 0, 0), 3);
    x = two(LIKED + "ask 10 10;", 2, 1);
    C.due("ab", x.stage(0, 1, 0, 1, 0), 1);
    C.due("ba", x.stage(0, 1, 1, 0, 0), 2);
    C.due("ab of y, x", x.stage(1, 0, 1, 0, 0), 1);
    x = two("corner a people 5 like rye 5;corner b people 7 like brown 3;street a b 9;home 5;ask 5 15;", 2, 1);
    C.due("ba with prices", x.stage(0, 1, 1, 0, 0), 2);
    C.due("ba: x's price", x.stage(0, 1, 1, 0, 1), 10);
    C.due("ba: y's price", x.stage(0, 1, 1, 0, 2), 8);
    C.due("ab with prices", x.stage(0, 1, 0, 1, 0), 1);
    C.due("ab: y's price", x.stage(0, 1, 0, 1, 2), 8);
  }

  /** "each of the four rows, if it's let", "by which the row is let" */
  private static void stageIfLet() {
    TwoBakers x = two(PAIR, 0, 0);
    forceLaw(x, "apart 1;");
    C.due("aa isn't let", x.stage(0, 1, 0, 1, 0), 1);
    forceLaw(x, "apart 2;");
    C.due("none is let", x.stage(0, 1, 0, 1, 0), NONE);
    C.due("none is let: price", x.stage(0, 1, 0, 1, 1), NONE);
    x.force(NONE);
    x.seller(0, 10, 0, 2, 2);
    C.due("beside another", x.stage(0, 1, 0, 1, 0), 1);
    forceLaw(x, "apart 1;");
    C.due("too near another", x.stage(0, 1, 0, 1, 0), NONE);
    x = two(PAIR + "corner c;", 0, 0);
    x.seller(2, 10, 0, 2, 2);
    C.due("another is elsewhere", x.stage(0, 1, 0, 1, 0), 0);
    forceLaw(x, "apart 1;");
    C.due("another has no way here", x.stage(0, 1, 0, 1, 0), 1);
  }

  /** "is worth what both EARN at its first PRICES at rest (none: the row isn't let)" */
  private static void stageWithoutPrices() {
    TwoBakers x = two(RESTLESS, 0, 0);
    C.due("aa, since ab and ba have no prices", x.stage(0, 1, 0, 1, 0), 0);
    C.due("x's price", x.stage(0, 1, 0, 1, 1), 2);
    C.due("y's price", x.stage(0, 1, 0, 1, 2), 2);
    forceLaw(x, "apart 1;");
    C.due("no row", x.stage(0, 1, 0, 1, 0), NONE);
  }

  /** "what both EARN at its first PRICES at rest" */
  private static void stageOfFirstPrices() {
    TwoBakers x = two("corner a people 6;corner b people 1;ask 0 3;", 0, 0);
    C.due("on one corner they give it away, so y goes", x.stage(0, 1, 0, 1, 0), 1);
    C.due("x's price alone", x.stage(0, 1, 0, 1, 1), 3);
    C.due("y's price alone", x.stage(0, 1, 0, 1, 2), 3);
    x = two("corner a people 6;corner b people 1 like rye 3;ask 0 3;", 2, 0);
    x.seller(1, 0, 0, 3, 2);
    C.due("x would go for a little", x.stage(0, 1, 0, 1, 0), 1);
    C.due("x has a alone", x.stage(0, 1, 0, 1, 1), 3);
    C.due("y sells nothing for nothing", x.stage(0, 1, 0, 1, 2), 0);
    x = two("corner a people 6;corner b people 2;ask 40 60;", 0, 0);
    C.due("the most: row", x.stage(0, 1, 0, 1, 0), 0);
    x.seller(0, 40, 0, 3, 2);
    C.due("the most: x's", x.stage(0, 1, 1, 0, 1), 60);
    C.due("the most: y's", x.stage(0, 1, 1, 0, 2), 40);
  }

  /** By a LAW's "price" that alone. */
  private static void stageByALaw() {
    TwoBakers x = two("corner a people 6;corner b people 4;street a b 12;step 5;ask 1 3;home 3;", 0, 0);
    forceLaw(x, "price 2;");
    C.due("the law's: row", x.stage(0, 1, 0, 1, 0), 1);
    C.due("the law's: x", x.stage(0, 1, 0, 1, 1), 2);
    C.due("the law's: y", x.stage(0, 1, 0, 1, 2), 2);
  }

  /** "NONE: none, none such." */
  private static void stageNoneSuch() {
    TwoBakers x = two(PAIR, 0, 0);
    for (int nobody : NOBODY) {
      C.due("x is " + nobody, x.stage(nobody, 1, 0, 1, 0), NONE);
      C.due("y is " + nobody, x.stage(0, nobody, 0, 1, 0), NONE);
      C.due("a is " + nobody, x.stage(0, 1, nobody, 1, 0), NONE);
      C.due("b is " + nobody, x.stage(0, 1, 0, nobody, 0), NONE);
    }
    C.due("alike", x.stage(0, 0, 0, 1, 0), NONE);
    C.due("alike corners", x.stage(0, 1, 1, 1, 0), NONE);
    int[] wrong = {LEAST, -1, 3, MOST};
    for (int what : wrong) {
      C.due("what is " + what, x.stage(0, 1, 0, 1, what), NONE);
    }
  }

  /** Games are only thought: SELLERS are as they were, and one game doesn't change what another answers. */
  private static void gamesLeaveAllAsItWas() {
    TwoBakers x = in("corner a people 9;corner b people 5 like rye 2;street a b 3 people 1;ask 5 9;home 12;");
    x.seller(101, 7, 0, 0, 0);
    x.seller(1, 8, 2, 1, 1);
    x.seller(102, 9, 1, 2, 2);
    long[] first = asked(x);
    long[] again = asked(x);
    for (int i = 0; i < first.length; i++) {
      C.due("asked again " + i, again[i], first[i]);
    }
    for (int i = first.length - 1; i >= 0; i--) {
      C.due("asked alone " + i, asked(x, i), first[i]);
    }
    int[] now = {101, 7, 1, 8, 102, 9};
    for (int i = 0; i < 6; i++) {
      C.due("of " + i, x.of(i / 2, i % 2), now[i]);
    }
  }

  /** What was asked of some SELLERS isn't told of others. */
  private static void gamesAreNotMixedUp() {
    int[][] rows = {{0, 1, NONE}, {1, 0, NONE}, {0, 2, NONE}, {2, 1, NONE}, {3, 1, NONE}, {0, 3, NONE}, {0, 1, 2}, {0, 1, 3}, {1, 0, 2},
      {0, 2, 1}, {3, 2, 1}, {2, 1, 3}};
    for (int[] before : rows) {
      TwoBakers x = fourUnlike();
      for (int[] row : rows) {
        TwoBakers fresh = fourUnlike();
        x.rests(before[0], before[1], before[2], NONE);
        C.due("rests", mixed(x, row), mixed(fresh, row));
        x.prices(before[0], before[1], NONE);
        C.due("prices", x.prices(row[0], row[1], 0), fresh.prices(row[0], row[1], 0));
        x.bestLaw(before[0], before[1], 1);
        C.due("bestLaw", x.bestLaw(row[0], row[1], 1), fresh.bestLaw(row[0], row[1], 1));
      }
    }
  }

  private static long mixed(TwoBakers x, int[] row) {
    int many = x.rests(row[0], row[1], row[2], NONE);
    long sum = many;
    for (int k = 0; k < many && k < 5; k++) {
      sum = 5000 * sum + x.rests(row[0], row[1], row[2], k);
    }
    return sum;
  }

  private static TwoBakers fourUnlike() {
    TwoBakers x = in("corner a people 9 like rye 4;corner b people 5 like brown 3;corner c people 7 like white 5;street a b 2 people 1;"
        + "street b c 3;street c a 4 people 2;ask 4 8;home 13;");
    x.seller(0, 4, 0, 0, 0);
    x.seller(101, 6, 1, 1, 1);
    x.seller(2, 7, 2, 2, 2);
    x.seller(121, 8, 2, 0, 0);
    Check.law(x, "apart 2;");
    return x;
  }

  private static long[] asked(TwoBakers x) {
    long[] answers = new long[14];
    for (int i = 0; i < answers.length; i++) {
      answers[i] = asked(x, i);
    }
    return answers;
  }

  private static long asked(TwoBakers x, int i) {
    switch (i) {
      case 0: return x.rests(0, 1, NONE, NONE);
      case 1: return x.rests(1, 0, NONE, 0);
      case 2: return x.rests(0, 1, 2, NONE);
      case 3: return x.rests(0, 2, 1, 0);
      case 4: return x.lots(0, 1, 0, 1, 1);
      case 5: return x.lead(0, 1, 2);
      case 6: return x.lead(1, 2, 4);
      case 7: return x.prices(0, 1, NONE);
      case 8: return x.prices(0, 2, 0);
      case 9: return x.prices(1, 0, 0);
      case 10: return x.stage(0, 1, 0, 1, 1);
      case 11: return x.stage(1, 2, 0, 1, 2);
      case 12: return x.sold(0);
      default: return x.best(0, 1);
    }
  }
}
