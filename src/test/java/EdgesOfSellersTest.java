/**
 * Part 2 of the document's Terms, promises 8 to 20: each sentence that names an edge has a method of its own, with its
 * words above it.
 */
public final class EdgesOfSellersTest {
  private static final Check C = new Check("EdgesOfSellersTest");
  private static final int NONE = TwoBakers.NONE;
  private static final int LEAST = Integer.MIN_VALUE;
  private static final int MOST = Integer.MAX_VALUE;
  /** Rye is liked everywhere: who has it wants to stand by the other, who hasn't wants to be away. */
  private static final String CAT = "corner a people 10 like rye 3;corner b people 20 like rye 3;street a b 5;home 100;";

  public static void main(String[] args) {
    fourSellersAtMost();
    sellersAreAtSpots();
    pricesAreOfAsk();
    breadsChainsKinds();
    costIsPriceAndSteps();
    lessWhatTheyLike();
    alongStreetsNoneLikes();
    atMostHome();
    homeAlongStreets();
    alikeGetTheSameParts();
    alikeAlongStreets();
    personsAreOfParts();
    soldExactly();
    soldBehindAnother();
    earnsOfChains();
    movesWithinApart();
    movesWithoutAWay();
    movesWhereItIs();
    movesToAllSpots();
    movesOfPrice();
    movesOfNone();
    bestOfSeveral();
    bestOfTheChain();
    ratherAndRest();
    chaseAtRest();
    chaseInARing();
    chaseInARingOfThree();
    chaseDownToTheLeast();
    chaseInNoRing();
    chaseSpent();
    chaseOfRounds();
    chaseOfSixty();
    chaseLeavesAllAsBefore();
    chaseOfPrices();
    farByTheLaw();
    forceNoneSuch();
    putNotAsTold();
    ofNoneSuch();
    soldNoneSuch();
    earnsNoneSuch();
    homeOfStreetsThatAreOpen();
    buysBits();
    bestNoneSuch();
    restNoSellers();
    turnTrueIfItMoved();
    chaseNoneSuch();
    C.end();
  }

  private static TwoBakers in(String town) {
    TwoBakers x = new TwoBakers();
    C.due("town " + town, Check.town(x, town) > 0, true);
    return x;
  }

  private static void forceLaw(TwoBakers x, String text) {
    int law = Check.law(x, text);
    C.due("law " + text, law >= 0, true);
    C.due("in force: " + text, x.force(law), true);
  }

  /** "SELLERS, up to 4", "NONE, doing nothing: (..) 4 are there." */
  private static void fourSellersAtMost() {
    TwoBakers x = in("corner a people 1;corner b;");
    for (int i = 0; i < 4; i++) {
      C.due("seller " + i, x.seller(0, 10, 0, i, 0), i);
    }
    C.due("a fifth", x.seller(1, 10, 1, 1, 1), NONE);
    C.due("still four", x.count(1), 4);
    C.due("the fourth is as it was", x.of(3, 0), 0);
    C.due("each has a quarter", x.sold(3), 6);
    C.due("no seller 4", x.of(4, 0), NONE);
  }

  /** "at a SPOT" */
  private static void sellersAreAtSpots() {
    TwoBakers x = in("corner a;corner b;street a b 3;");
    int[] wrong = {LEAST, -1, 2, 12, 99, 100, 103, 119, 120, 121, MOST};
    for (int spot : wrong) {
      C.due("seller at " + spot, x.seller(spot, 10, 0, 0, 0), NONE);
    }
    C.due("none is there", x.count(1), 0);
    int[] right = {0, 1, 101, 102};
    for (int i = 0; i < 4; i++) {
      C.due("seller at " + right[i], x.seller(right[i], 10, 0, 0, 0), i);
      C.due("it is at " + right[i], x.of(i, 0), right[i]);
    }
  }

  /** "with a PRICE of ASK" */
  private static void pricesAreOfAsk() {
    TwoBakers x = in("corner a;ask 7 9;");
    int[] wrong = {LEAST, -1, 0, 6, 10, MOST};
    for (int price : wrong) {
      C.due("seller for " + price, x.seller(0, price, 0, 0, 0), NONE);
    }
    C.due("for the least", x.seller(0, 7, 0, 0, 0), 0);
    C.due("for the most", x.seller(0, 9, 0, 0, 0), 1);
    forceLaw(x, "price 8;");
    C.due("of ASK, not of a law's alone", x.seller(0, 7, 0, 0, 0), 2);
    C.due("as it's asked", x.of(2, 1), 8);
    x.force(NONE);
    C.due("as it was told", x.of(2, 1), 7);
    x = in("corner a;");
    C.due("for 10 without an ask", x.seller(0, 10, 0, 0, 0), 0);
    C.due("for 9 without an ask", x.seller(0, 9, 0, 0, 0), NONE);
    C.due("for 11 without an ask", x.seller(0, 11, 0, 0, 0), NONE);
  }

  /** "a BREAD, a CHAIN 0 to 3; KIND 0 moves its place, 1 its PRICE, 2 stays" */
  private static void breadsChainsKinds() {
    TwoBakers x = in("corner a;");
    int[] wrong = {LEAST, -1, 3, MOST};
    for (int w : wrong) {
      C.due("bread " + w, x.seller(0, 10, w, 0, 0), NONE);
      C.due("chain " + (w == 3 ? 4 : w), x.seller(0, 10, 0, w == 3 ? 4 : w, 0), NONE);
      C.due("kind " + w, x.seller(0, 10, 0, 0, w), NONE);
    }
    C.due("none is there", x.count(1), 0);
    C.due("the least of each", x.seller(0, 10, 0, 0, 0), 0);
    C.due("the most of each", x.seller(0, 10, 2, 3, 2), 1);
    C.due("bread", x.of(1, 2), 2);
    C.due("chain", x.of(1, 3), 3);
    C.due("kind", x.of(1, 4), 2);
  }

  /** "COST to buy at one: PRICE and STEP times steps to it" */
  private static void costIsPriceAndSteps() {
    TwoBakers x = in("corner a people 1;corner b;street a b 3;step 4;ask 0 20;");
    x.seller(0, 12, 0, 0, 2);
    x.seller(1, 0, 0, 1, 2);
    C.due("alike", x.buys(0), 3);
    x.put(1, 1, 1);
    C.due("one dearer", x.buys(0), 1);
    x.put(0, 0, 14);
    C.due("one cheaper", x.buys(0), 2);
    x.put(1, 101, 6);
    C.due("alike from a street", x.buys(0), 1 << 1);
    x.put(1, 101, 10);
    C.due("alike from a street's spot", x.buys(0), 3);
  }

  /** "less what people at a corner like its BREAD" */
  private static void lessWhatTheyLike() {
    int[] due = {1, 3, 2};
    for (int like = 1; like <= 3; like++) {
      TwoBakers x = in("corner a people 1 like rye " + like + " like brown 20;corner b like white 20;street a b 2;");
      x.seller(0, 10, 0, 0, 2);
      x.seller(1, 10, 2, 1, 2);
      C.due("liked by " + like, x.buys(0), due[like - 1]);
    }
    TwoBakers x = in("corner a people 1 like rye 20;home 0;ask 0 20;");
    x.seller(0, 20, 2, 0, 2);
    C.due("a cost of 0", x.sold(0), 24);
    x.put(0, 0, 5);
    C.due("a cost below 0", x.sold(0), 24);
    x.seller(0, 4, 2, 1, 2);
    C.due("a cost still lower", x.sold(0), 0);
  }

  /** "(along streets none does)" */
  private static void alongStreetsNoneLikes() {
    TwoBakers x = in("corner a like rye 20;corner b like rye 20;street a b 4 people 1;");
    x.seller(0, 10, 0, 0, 2);
    x.seller(1, 10, 2, 1, 2);
    C.due("half of the street", x.sold(0), 48);
    C.due("the other half", x.sold(1), 48);
    C.due("at the corner they do", x.buys(0), 2);
  }

  /** "All buy where COST is least, if it's at most HOME" */
  private static void atMostHome() {
    TwoBakers x = in("corner a people 2;corner b people 3;street a b 2;step 3;home 9;ask 3 10;");
    x.seller(0, 3, 0, 0, 2);
    C.due("a cost of HOME", x.sold(0), 5 * 72);
    C.due("nobody at home", x.home(), 0);
    x.put(0, 0, 4);
    C.due("one above it", x.sold(0), 2 * 72);
    C.due("at home", x.home(), 3 * 72);
    C.due("nowhere", x.buys(1), 0);
    x.put(0, 0, 9);
    C.due("a price of HOME", x.sold(0), 2 * 72);
    x.put(0, 0, 10);
    C.due("a price above it", x.sold(0), 0);
    x = in("corner a people 2;home 0;ask 0 1;");
    x.seller(0, 0, 0, 0, 2);
    C.due("for nothing", x.sold(0), 48);
    x.put(0, 0, 1);
    C.due("for one", x.sold(0), 0);
  }

  /** "(steps by parts along a street)", "if it's at most HOME" */
  private static void homeAlongStreets() {
    TwoBakers x = in("corner a;corner b;street a b 4 people 3;step 2;home 13;ask 8 14;");
    int[] halves = {5, 4, 3, 2, 1, 0, 0};
    for (int price = 8; price <= 14; price++) {
      TwoBakers one = in("corner a;corner b;street a b 4 people 3;step 2;home 13;ask 8 14;");
      one.seller(0, price, 0, 0, 2);
      C.due("from the first corner for " + price, one.sold(0), halves[price - 8] * 72);
      one.put(0, 1, price);
      C.due("from the second corner for " + price, one.sold(0), halves[price - 8] * 72);
      one.put(0, 102, price);
      C.due("from the middle for " + price, one.sold(0), 2 * Math.min(4, halves[price - 8]) * 72);
      C.due("the others are at home", one.home(), 12 * 48 - one.sold(0));
    }
    x.seller(0, 12, 0, 0, 2);
    x.seller(1, 11, 0, 1, 2);
    C.due("with a gap between: the first", x.sold(0), 72);
    C.due("with a gap between: the second", x.sold(1), 2 * 72);
    C.due("with a gap between: at home", x.home(), 5 * 72);
  }

  /** "those of alike COST get the same parts of them" */
  private static void alikeGetTheSameParts() {
    for (int step = 1; step <= 5; step++) {
      TwoBakers x = in("corner a people 1;corner b;street a b 1;step " + step + ";ask 5 15;");
      for (int many = 1; many <= 4; many++) {
        x.seller(0, 10, 0, 0, 2);
        C.due("one of " + many, x.sold(many - 1), 24 * step / many);
        C.due("the first of " + many, x.sold(0), 24 * step / many);
      }
      x.put(3, 1, 10 - step);
      C.due("from elsewhere, too", x.sold(3), 6 * step);
      x.put(2, 0, 11);
      C.due("a third", x.sold(0), 8 * step);
      C.due("too dear", x.sold(2), 0);
    }
  }

  /** The same along streets: parts of a stretch are shared by all who stand alike behind its end. */
  private static void alikeAlongStreets() {
    TwoBakers x = in("corner a;corner b;street a b 3 people 1;step 5;ask 0 20;");
    x.seller(0, 7, 0, 0, 2);
    x.seller(0, 7, 0, 0, 2);
    x.seller(0, 7, 0, 0, 2);
    x.seller(1, 8, 0, 0, 2);
    C.due("the right end's", x.sold(3), 12 * 14);
    C.due("a third of the left end's", x.sold(0), 12 * 16 / 3);
    C.due("another third", x.sold(2), 12 * 16 / 3);
    x.put(3, 0, 7);
    C.due("a quarter of all", x.sold(3), 360 / 4);
    x = in("corner a;corner b;street a b 4 people 1;step 2;ask 0 20;");
    x.seller(0, 0, 0, 0, 2);
    x.seller(102, 4, 0, 1, 2);
    C.due("alike behind the second", x.sold(1), 48);
    C.due("alone ahead of it", x.sold(0), 96 + 48);
  }

  /** "PARTS: 24 times STEP are one person." */
  private static void personsAreOfParts() {
    for (int step = 1; step <= 5; step++) {
      TwoBakers x = in("corner a people 99;corner b people 0;street a b 12 people 20;step " + step + ";");
      C.due("nobody sells", x.home(), 24L * step * (99 + 240));
      C.due("all people", x.count(7), 24L * step * (99 + 240));
      x.seller(0, 10, 0, 0, 2);
      C.due("one sells to all", x.sold(0), 24L * step * (99 + 240));
    }
  }

  /** "(exactly: along streets people stand evenly, as many on each step)" */
  private static void soldExactly() {
    for (int step = 1; step <= 5; step++) {
      for (int more = 0; more <= 6; more++) {
        TwoBakers x = in("corner a;corner b;street a b 3 people 2;step " + step + ";ask 0 20;");
        x.seller(0, 10, 0, 0, 2);
        x.seller(1, 10 + more, 0, 1, 2);
        int halves = Math.min(6 * step, 3 * step + more);
        C.due("the cheaper's, step " + step + ", more " + more, x.sold(0), more == 3 * step ? 72 * 2 * step : 24 * halves);
      }
    }
    TwoBakers x = in("corner a;corner b;corner c;street a b 9 people 1;street b c 1;street c a 1;");
    x.seller(0, 10, 0, 0, 2);
    x.seller(2, 10, 0, 1, 2);
    C.due("one way along, the other around", x.sold(0), 24 * 5);
    C.due("around", x.sold(1), 24 * 4);
    x.put(1, 0, 10);
    C.due("both ways to one spot", x.sold(1), 12 * 9);
  }

  /** Who stands on a street sells on both sides of it, unless another's COST is less there, too. */
  private static void soldBehindAnother() {
    TwoBakers x = in("corner a;corner b;street a b 4 people 1;step 2;ask 0 20;");
    x.seller(0, 0, 0, 0, 2);
    x.seller(102, 20, 0, 1, 2);
    C.due("too dear on the way", x.sold(0), 192);
    x.put(1, 102, 5);
    C.due("one too dear on the way", x.sold(1), 0);
    x.put(1, 102, 3);
    C.due("one cheaper on the way", x.sold(1), 24 * 9 / 2);
    C.due("ahead of it", x.sold(0), 24 * 7 / 2);
    x.put(0, 1, 0);
    C.due("from the other side", x.sold(1), 24 * 9 / 2);
    x.put(1, 102, 20);
    C.due("too dear from the other side", x.sold(0), 192);
    x.put(0, 101, 4);
    x.put(1, 103, 4);
    C.due("two on one street", x.sold(0), 96);
    x.seller(102, 4, 0, 2, 2);
    C.due("one between two", x.sold(2), 48);
    C.due("and who is beside", x.sold(1), 72);
    x = in("corner a;corner b;corner c;street a b 4 people 1;street b c 4 people 2;step 2;ask 0 20;");
    x.seller(102, 10, 0, 0, 2);
    x.seller(121, 10, 0, 1, 2);
    C.due("over a corner", x.sold(0), 48 * 2 + 48 * 3 / 2);
    C.due("from over the corner", x.sold(1), 48 / 2 + 96 * 4);
    x = in("corner a;corner b;corner c;corner d;street a b 4 people 1;street c d 4 people 2;");
    x.seller(102, 10, 0, 0, 2);
    x.seller(122, 10, 0, 1, 2);
    C.due("the same place of another street is elsewhere", x.sold(0), 96);
    C.due("and sells for itself", x.sold(1), 192);
    int[] due = {48 * 5, 12 * 19, 12 * 18, 12 * 17, 48 * 4 / 2, 0};
    for (int more = 0; more < 6; more++) {
      x = in("corner a;corner b;street a b 8 people 1;step 2;ask 0 20;");
      x.seller(102, 4, 0, 0, 2);
      x.seller(104, 4 + more, 0, 1, 2);
      C.due("dearer on one street by " + more, x.sold(1), due[more]);
      C.due("and the cheaper one has the rest", x.sold(0), 48 * 8 - x.sold(1));
      x.put(0, 106, 4);
      C.due("from the other side by " + more, x.sold(1), due[more]);
    }
  }

  /** "EARNS: SOLD times PRICE; a CHAIN's: of all its SELLERS." */
  private static void earnsOfChains() {
    TwoBakers x = in("corner a people 1;corner b people 2;ask 0 9;");
    x.seller(0, 9, 0, 3, 2);
    x.seller(1, 5, 0, 3, 2);
    x.seller(1, 5, 0, 0, 2);
    C.due("chain 3", x.earns(3), 24 * 9 + 24 * 5);
    C.due("chain 0", x.earns(0), 24 * 5);
    C.due("chain 1, without sellers", x.earns(1), 0);
    x.put(0, 0, 0);
    C.due("a price of 0", x.earns(3), 24 * 5);
    C.due("a price of 0 sells", x.sold(0), 24);
  }

  /** "all SPOTS (..) with FAR at least APART (0 without a LAW) from all other SELLERS" */
  private static void movesWithinApart() {
    TwoBakers x = in("corner a people 5 like rye 20;corner b;street a b 12;home 1;");
    x.seller(0, 10, 0, 0, 2);
    x.seller(1, 10, 2, 1, 0);
    C.due("without a law: by the other", x.best(1, 0), 0);
    C.due("what it earns", x.best(1, 1), 5 * 24 * 10);
    int[] spots = {0, 101, 109, 110, 111, 1, 1};
    int[] aparts = {0, 1, 9, 10, 11, 12, 13};
    for (int i = 0; i < aparts.length; i++) {
      forceLaw(x, "apart " + aparts[i] + ";");
      C.due("apart " + aparts[i], x.best(1, 0), spots[i]);
    }
    forceLaw(x, "apart 13;apart 3;");
    C.due("the last apart holds", x.best(1, 0), 103);
    forceLaw(x, "price 10;");
    C.due("a law without apart", x.best(1, 0), 0);
    x = in("corner a people 5;corner b;corner c people 1;street a b 4;street b c 4;home 11;");
    x.seller(101, 10, 1, 0, 2);
    x.seller(103, 10, 1, 1, 2);
    x.seller(123, 10, 1, 2, 0);
    forceLaw(x, "apart 2;");
    C.due("from all others, those on streets too", x.best(2, 2), 0);
    forceLaw(x, "apart 1;");
    C.due("a corner beside is let", x.best(2, 0), 0);
    x = in("corner a people 5 like rye 20;corner b;street a b 12;home 0;ask 15 15;");
    x.seller(0, 15, 0, 0, 2);
    x.seller(103, 15, 0, 1, 2);
    x.seller(1, 15, 2, 2, 0);
    forceLaw(x, "apart 2;");
    C.due("behind one on the same street", x.best(2, 0), 105);
    forceLaw(x, "apart 3;");
    C.due("too far behind it to sell", x.best(2, 2), 0);
    x.put(0, 111, 15);
    C.due("ahead of it", x.best(2, 0), 0);
    x.put(1, 102, 15);
    forceLaw(x, "apart 2;");
    C.due("the corner is two off", x.best(2, 0), 0);
    forceLaw(x, "apart 3;");
    C.due("three behind", x.best(2, 0), 105);
    x = in("corner a;corner b people 5 like rye 20;street a b 12;home 0;ask 15 15;");
    x.seller(1, 15, 0, 0, 2);
    x.seller(0, 15, 2, 1, 0);
    forceLaw(x, "apart 5;");
    C.due("from the second corner", x.best(1, 0), 107);
    forceLaw(x, "apart 6;");
    C.due("too far from the second corner to sell", x.best(1, 2), 0);
    x = in("corner a people 5 like rye 20;corner b;corner c;corner d;street a b 12;street c d 12;home 0;ask 15 15;");
    x.seller(0, 15, 0, 0, 2);
    x.seller(125, 15, 0, 1, 2);
    x.seller(1, 15, 2, 2, 0);
    forceLaw(x, "apart 3;");
    C.due("not from the same place of another street", x.best(2, 0), 103);
  }

  /** "or none FAR" */
  private static void movesWithoutAWay() {
    TwoBakers x = in("corner a people 5;corner b people 9;corner c;street a c 3;");
    x.seller(0, 10, 0, 0, 2);
    x.seller(2, 10, 0, 1, 0);
    forceLaw(x, "apart 99;");
    C.due("where no way goes", x.best(1, 0), 1);
    x = in("corner a people 5;corner b people 9;corner c;street a b 3;street a c 3;");
    x.seller(101, 10, 0, 0, 2);
    x.seller(2, 10, 0, 1, 0);
    forceLaw(x, "apart 99;");
    C.due("ways go everywhere", x.best(1, 2), 0);
    forceLaw(x, "apart 99;shut a b;");
    C.due("from one on a shut street", x.best(1, 0), 1);
  }

  /** "or where it is" */
  private static void movesWhereItIs() {
    TwoBakers x = in("corner a people 9;corner b people 1;street a b 2;");
    x.seller(0, 10, 0, 0, 2);
    x.seller(0, 10, 0, 1, 0);
    forceLaw(x, "apart 1;");
    C.due("too near, but there", x.best(1, 0), 0);
    C.due("it wouldn't rather", x.best(1, 2), 0);
    x.put(1, 101, 10);
    C.due("not back to it", x.best(1, 0), 101);
    x.force(NONE);
    C.due("back to it without the law", x.best(1, 0), 0);
  }

  /** "all SPOTS (a corner or street that there is)", "no MOVES go there" */
  private static void movesToAllSpots() {
    String town = "corner a people 1;corner b people 1;corner c people 1;corner d people 1;street a b 2;street c d 3;home 11;";
    TwoBakers x = in(town);
    x.seller(0, 10, 0, 0, 0);
    C.due("the first street's spot", x.best(0, 0), 101);
    forceLaw(x, "shut b a;");
    C.due("but not on a shut street", x.best(0, 2), 0);
    x = in("corner a;corner b;corner c;street a b 2;street b c 12 people 1;home 11;");
    x.seller(0, 10, 0, 0, 0);
    C.due("the first of the best spots", x.best(0, 0), 121);
    x.seller(121, 10, 0, 1, 2);
    x.seller(124, 10, 0, 1, 2);
    x.seller(127, 10, 0, 1, 2);
    C.due("of what is left", x.best(0, 0), 129);
    x = in("corner a;corner b people 8;street a b 12;home 11;");
    x.seller(0, 10, 0, 0, 0);
    x.seller(1, 10, 0, 1, 2);
    forceLaw(x, "apart 1;");
    C.due("the last spot of a street, but no share", x.best(0, 2), 0);
    x.put(1, 101, 10);
    C.due("beside the corner is no better than on it", x.best(0, 0), 1);
    x = in("corner a;corner b people 8 like rye 1;street a b 12;home 10;");
    x.seller(0, 10, 2, 0, 0);
    x.seller(1, 10, 0, 1, 2);
    forceLaw(x, "apart 1;");
    C.due("the last spot of a street", x.best(0, 0), 111);
  }

  /** "of KIND 1: all PRICES of ASK (by a LAW's "price" that alone)" */
  private static void movesOfPrice() {
    TwoBakers x = in("corner a people 4;corner b people 9;street a b 1;ask 5 25;");
    x.seller(0, 15, 0, 0, 1);
    C.due("the most", x.best(0, 0), 25);
    C.due("the most earns", x.best(0, 1), 13 * 24 * 25);
    x.seller(0, 6, 0, 1, 2);
    C.due("the least", x.best(0, 0), 5);
    C.due("a price, not a spot", x.of(0, 0), 0);
    forceLaw(x, "price 20;");
    C.due("a law's alone", x.best(0, 0), 20);
    C.due("a law's earns", x.best(0, 1), 13 * 12 * 20);
    C.due("it wouldn't rather", x.best(0, 2), 0);
    C.due("at rest", x.rest(), NONE);
  }

  /** "of KIND 2: as it is" */
  private static void movesOfNone() {
    TwoBakers x = in("corner a;corner b people 9;street a b 3;ask 5 9;");
    x.seller(101, 5, 0, 0, 2);
    C.due("its spot", x.best(0, 0), 101);
    C.due("what it earns", x.best(0, 1), 9 * 24 * 5);
    C.due("it wouldn't rather", x.best(0, 2), 0);
    C.due("it doesn't turn", x.turn(0), false);
    C.due("at rest", x.rest(), NONE);
    forceLaw(x, "price 9;");
    C.due("by a law's price", x.best(0, 1), 9 * 24 * 9);
  }

  /** "of several: as it is, if that is one, else the least" */
  private static void bestOfSeveral() {
    TwoBakers x = in("corner a;corner b people 5;corner c people 5;corner d people 5;street a b 2;home 10;");
    x.seller(3, 10, 0, 0, 0);
    C.due("as it is, the greatest", x.best(0, 0), 3);
    x.put(0, 2, 10);
    C.due("as it is, neither least nor greatest", x.best(0, 0), 2);
    x.put(0, 0, 10);
    C.due("else the least", x.best(0, 0), 1);
    x.put(0, 101, 10);
    C.due("else the least, from a street", x.best(0, 0), 1);
    x = in("corner a people 6;home 9;ask 4 12;");
    x.seller(0, 4, 0, 0, 1);
    x.seller(0, 6, 0, 1, 2);
    C.due("the least price of none", x.best(0, 0), 5);
    x.put(0, 0, 12);
    x.put(1, 0, 4);
    C.due("half of four is more than nothing", x.best(0, 0), 4);
    x = in("corner a people 6;home 3;ask 4 12;");
    x.seller(0, 7, 0, 0, 1);
    C.due("nothing at any price: as it is", x.best(0, 0), 7);
  }

  /** "the MOVE by which its CHAIN EARNS most" */
  private static void bestOfTheChain() {
    TwoBakers x = in("corner a people 9;corner b people 5;street a b 1;");
    x.seller(1, 10, 0, 2, 0);
    x.seller(0, 10, 0, 2, 2);
    C.due("its chain has all anyhow", x.best(0, 2), 0);
    C.due("what its chain earns", x.best(0, 1), 14 * 240);
    x = in("corner a people 9;corner b people 5;street a b 1;");
    x.seller(1, 10, 0, 2, 0);
    x.seller(0, 10, 0, 1, 2);
    C.due("for itself it would", x.best(0, 0), 0);
    C.due("half of all", x.best(0, 1), 7 * 240);
  }

  /** "It would RATHER, if BEST isn't as it is. At REST: nobody would.", "else the first SELLER that would RATHER (of all)" */
  private static void ratherAndRest() {
    TwoBakers x = in("corner a people 9;corner b people 5;street a b 1;ask 5 10;home 10;");
    x.seller(0, 10, 0, 0, 2);
    x.seller(1, 10, 0, 1, 0);
    x.seller(1, 10, 0, 2, 0);
    C.due("who stays never would", x.best(0, 2), 0);
    C.due("the first would", x.best(1, 2), 1);
    C.due("the second would, too", x.best(2, 2), 1);
    C.due("the first of all", x.rest(), 1);
    x.turn(1);
    C.due("then the first isn't the one", x.best(1, 2), 0);
    C.due("all are at rest", x.rest(), NONE);
    x.seller(0, 9, 0, 3, 1);
    C.due("a fourth who has all", x.best(3, 2), 1);
    C.due("the first has nothing left where it is", x.rest(), 1);
  }

  /** "it ends with a ROUND in which nobody moved (at REST)", "that in which nobody moved, too" */
  private static void chaseAtRest() {
    TwoBakers x = in("corner a people 9;corner b people 5;street a b 1;");
    x.seller(0, 10, 0, 0, 2);
    C.due("one who stays", x.chase(60, 0), 0);
    C.due("one who stays: rounds", x.chase(60, 1), 1);
    C.due("in one round", x.chase(1, 0), 0);
    x.seller(1, 10, 0, 1, 0);
    C.due("one who moves", x.chase(60, 0), 0);
    C.due("one who moves: rounds", x.chase(60, 1), 2);
    C.due("no ring", x.chase(60, 2), 0);
    C.due("just in time", x.chase(2, 0), 0);
    C.due("its spot", x.chase(2, 11), 0);
    C.due("the other's spot", x.chase(2, 10), 0);
    x = in("corner a people 9;corner b people 5;street a b 1;");
    x.seller(1, 10, 0, 0, 0);
    x.seller(0, 10, 0, 1, 2);
    C.due("the first moves, the last doesn't", x.chase(60, 0), 0);
    C.due("the first moves, the last doesn't: rounds", x.chase(60, 1), 2);
    C.due("the first moves, one round", x.chase(1, 0), 2);
  }

  /** "or if all is as it was behind an elder ROUND or at the beginning (a RING; its length: how many ROUNDS ago)" */
  private static void chaseInARing() {
    TwoBakers x = in(CAT);
    x.seller(0, 10, 2, 0, 0);
    x.seller(0, 10, 0, 1, 0);
    int[] elder = {1, 3, 2, NONE};
    for (int what = 0; what < 4; what++) {
      C.due("as behind an elder round: " + what, x.chase(60, what), elder[what]);
    }
    C.due("in the last round", x.chase(3, 0), 1);
    C.due("in the last round: length", x.chase(3, 2), 2);
    x.put(1, 1, 10);
    int[] beginning = {1, 2, 2, NONE};
    for (int what = 0; what < 4; what++) {
      C.due("as at the beginning: " + what, x.chase(60, what), beginning[what]);
    }
    C.due("the spot at its end", x.chase(60, 10), 0);
    C.due("the other's spot at its end", x.chase(60, 11), 1);
    C.due("as at the beginning, in the last round", x.chase(2, 0), 1);
    C.due("a round too few", x.chase(1, 0), 2);
    C.due("a round too few: the spot", x.chase(1, 10), 1);
    C.due("a round too few: the other's spot", x.chase(1, 11), 0);
  }

  /** "all is as it was": places and PRICES of all SELLERS. */
  private static void chaseInARingOfThree() {
    TwoBakers x = in("corner a people 1;corner b people 3;street a b 3;ask 2 5;home 5;");
    x.seller(0, 3, 0, 0, 0);
    x.seller(1, 5, 0, 1, 1);
    int[] spots = {102, 1, 0};
    int[] prices = {3, 2, 5};
    for (int n = 1; n <= 3; n++) {
      C.due("behind " + n + ": spot", x.chase(n, 10), spots[n - 1]);
      C.due("behind " + n + ": price", x.chase(n, 21), prices[n - 1]);
      C.due("behind " + n + ": how", x.chase(n, 0), n < 3 ? 2 : 1);
    }
    C.due("as at the beginning: rounds", x.chase(60, 1), 3);
    C.due("as at the beginning: length", x.chase(60, 2), 3);
    x.put(1, 1, 4);
    C.due("as behind an elder one", x.chase(60, 0), 1);
    C.due("as behind an elder one: rounds", x.chase(60, 1), 4);
    C.due("as behind an elder one: length", x.chase(60, 2), 3);
    C.due("as behind an elder one: spot", x.chase(60, 10), 1);
    C.due("as behind an elder one: price", x.chase(60, 21), 2);
  }

  /** "in each ROUND the SELLERS by numbers take their BEST one after the other" */
  private static void chaseDownToTheLeast() {
    TwoBakers x = in("corner a people 4;home 9;ask 3 9;");
    x.seller(0, 9, 0, 0, 1);
    x.seller(0, 9, 0, 1, 1);
    C.due("down to where half is as good", x.chase(60, 0), 0);
    C.due("its rounds", x.chase(60, 1), 5);
    C.due("price of the first", x.chase(60, 20), 3);
    C.due("price of the second", x.chase(60, 21), 3);
    C.due("behind one round", x.chase(1, 20), 8);
    C.due("behind one round, the second", x.chase(1, 21), 7);
  }

  /** No RING, if anything is other than it was: by a place, by a PRICE, of any SELLER. */
  private static void chaseInNoRing() {
    TwoBakers x = in("corner a people 1;corner b people 2;ask 40 40;");
    x.seller(0, 40, 0, 0, 0);
    C.due("from a to b for 40", x.chase(60, 0), 0);
    C.due("from a to b for 40: rounds", x.chase(60, 1), 2);
    StringBuilder star = new StringBuilder("corner a people 1;");
    for (char k = 'b'; k <= 'j'; k++) {
      star.append("corner ").append(k).append(k == 'j' ? " people 1;" : ";");
      star.append("street a ").append(k).append(k == 'j' ? " 2;" : " 12;");
    }
    x = in(star + "ask 10 11;home 11;");
    x.seller(1, 11, 0, 0, 2);
    x.seller(5, 10, 0, 1, 0);
    C.due("from a corner to a far street's spot", x.chase(60, 0), 0);
    C.due("from a corner to a far street's spot: rounds", x.chase(60, 1), 2);
    C.due("the spot", x.chase(60, 11), 261);
  }

  /** "or spent" */
  private static void chaseSpent() {
    TwoBakers x = in(CAT);
    x.seller(0, 10, 2, 0, 0);
    x.seller(0, 10, 0, 1, 0);
    for (int n = 1; n <= 2; n++) {
      C.due("spent", x.chase(n, 0), 2);
      C.due("rounds gone", x.chase(n, 1), n);
      C.due("no ring", x.chase(n, 2), 0);
    }
    C.due("behind one: the first", x.chase(1, 10), 0);
    C.due("behind one: the second", x.chase(1, 11), 1);
    C.due("behind two: the first", x.chase(2, 10), 1);
    C.due("behind two: the second", x.chase(2, 11), 0);
  }

  /** "CHASE of n ROUNDS (1 to 60)" */
  private static void chaseOfRounds() {
    TwoBakers x = in(CAT);
    x.seller(0, 10, 2, 0, 0);
    x.seller(0, 10, 0, 1, 0);
    C.due("none", x.chase(0, 0), NONE);
    C.due("below", x.chase(-1, 0), NONE);
    C.due("least", x.chase(LEAST, 0), NONE);
    C.due("61", x.chase(61, 0), NONE);
    C.due("most", x.chase(MOST, 0), NONE);
    C.due("one", x.chase(1, 1), 1);
    C.due("sixty", x.chase(60, 1), 3);
  }

  /** All sixty ROUNDS: prices go down and up again, and are never as they were. */
  private static void chaseOfSixty() {
    TwoBakers x = fourWhoChase();
    java.util.Set<String> seen = new java.util.HashSet<>();
    for (int round = 0; round <= 60; round++) {
      String now = "";
      for (int seller = 0; seller < 4; seller++) {
        now += x.of(seller, 1) + " ";
      }
      C.due("is new behind " + round, seen.add(now), true);
      for (int seller = 0; seller < 4 && round < 60; seller++) {
        x.turn(seller);
      }
    }
    TwoBakers other = fourWhoChase();
    C.due("spent", other.chase(60, 0), 2);
    C.due("sixty", other.chase(60, 1), 60);
    C.due("no ring", other.chase(60, 2), 0);
    for (int seller = 0; seller < 4; seller++) {
      C.due("spot of " + seller, other.chase(60, 10 + seller), other.of(seller, 0));
      C.due("price of " + seller, other.chase(60, 20 + seller), x.of(seller, 1));
    }
    C.due("fifty-nine", other.chase(59, 1), 59);
  }

  private static TwoBakers fourWhoChase() {
    TwoBakers x = in("corner a people 39;corner b people 10;corner c people 30;corner d people 20;street a b 3;street b c 5;"
        + "street c d 2;step 3;ask 14 34;home 35;");
    int[] spots = {2, 3, 1, 0};
    int[] prices = {28, 34, 19, 24};
    for (int i = 0; i < 4; i++) {
      x.seller(spots[i], prices[i], 0, i, 1);
    }
    return x;
  }

  /** "(All is as before then.)" */
  private static void chaseLeavesAllAsBefore() {
    TwoBakers x = in(CAT + "ask 5 10;");
    x.seller(0, 10, 2, 0, 0);
    x.seller(0, 8, 0, 1, 1);
    long sold = x.sold(0);
    C.due("a chase", x.chase(60, 0) >= 0, true);
    C.due("a turn of one", x.chase(1, 0) >= 0, true);
    C.due("the spot", x.of(0, 0), 0);
    C.due("the price", x.of(1, 1), 8);
    C.due("what it sold", x.sold(0), sold);
  }

  /** "in each ROUND the SELLERS by numbers take their BEST one after the other" */
  private static void chaseOfPrices() {
    TwoBakers x = in("corner a people 9;corner b people 5;street a b 3;ask 5 9;");
    x.seller(0, 5, 0, 0, 1);
    C.due("price at rest", x.chase(2, 20), 9);
    C.due("spot at rest", x.chase(2, 10), 0);
    forceLaw(x, "price 7;");
    C.due("by a law: at rest at once", x.chase(2, 1), 1);
    C.due("by a law: its price", x.chase(2, 20), 7);
    x = in("corner a people 9;corner b people 5;street a b 1;");
    x.seller(1, 10, 0, 0, 0);
    x.seller(1, 10, 0, 1, 0);
    C.due("the first goes, the second behind it", x.chase(1, 10), 0);
    C.due("the second sees the first there", x.chase(1, 11), 0);
  }

  /** "FAR of two SPOTS (by the LAW in force). NONE: none, none such." */
  private static void farByTheLaw() {
    TwoBakers x = in("corner a;corner b;corner c;street a b 4;street b c 4;");
    int[] none = {LEAST, -1, 3, 11, 12, 99, 100, 104, 119, 120, 124, 139, 140, 141, MOST};
    for (int spot : none) {
      C.due("far from " + spot, x.far(spot, 0), NONE);
      C.due("far to " + spot, x.far(0, spot), NONE);
    }
    forceLaw(x, "shut a b;");
    C.due("shut", x.far(0, 1), NONE);
    C.due("a shut spot to itself", x.far(102, 102), NONE);
    C.due("a shut spot to another", x.far(102, 101), NONE);
    C.due("a shut spot to its corner", x.far(102, 0), NONE);
    C.due("an open spot to a shut one", x.far(121, 103), NONE);
    C.due("others", x.far(1, 121), 1);
    forceLaw(x, "open a c 1;");
    C.due("over the opened one", x.far(101, 123), 3);
    C.due("over the opened one to a corner", x.far(0, 2), 1);
    x.force(NONE);
    C.due("without it", x.far(0, 2), 8);
  }

  /** "A LAW is in force (NONE: none): true; false: none such." */
  private static void forceNoneSuch() {
    TwoBakers x = in("corner a;corner b;");
    C.due("none without laws", x.force(NONE), true);
    C.due("0 without laws", x.force(0), false);
    Check.law(x, "open a b 3;");
    Check.law(x, "open a b 4;");
    C.due("told isn't in force", x.far(0, 1), NONE);
    C.due("the last", x.force(1), true);
    C.due("the last holds", x.far(0, 1), 4);
    int[] wrong = {2, 8, 9, -2, LEAST, MOST};
    for (int law : wrong) {
      C.due("force " + law, x.force(law), false);
    }
    C.due("the last still is in force", x.count(3), 1);
    C.due("the last still holds", x.far(0, 1), 4);
    C.due("one or none", x.force(0), true);
    C.due("the first holds alone", x.far(0, 1), 3);
    C.due("the same again", x.force(0), true);
    C.due("none", x.force(NONE), true);
    C.due("none again", x.force(NONE), true);
    C.due("none holds", x.far(0, 1), NONE);
  }

  /** "A SELLER has another SPOT and PRICE: true; false, doing nothing: not as told." */
  private static void putNotAsTold() {
    TwoBakers x = in("corner a people 1;corner b;street a b 3;ask 5 9;");
    C.due("nobody there", x.put(0, 0, 5), false);
    x.seller(0, 5, 1, 2, 1);
    int[][] wrong = {{-1, 1, 6}, {1, 1, 6}, {4, 1, 6}, {LEAST, 1, 6}, {MOST, 1, 6}, {0, -1, 6}, {0, 2, 6}, {0, 100, 6}, {0, 103, 6},
      {0, 121, 6}, {0, MOST, 6}, {0, LEAST, 6}, {0, 1, 4}, {0, 1, 10}, {0, 1, -1}, {0, 1, MOST}};
    for (int[] w : wrong) {
      C.due("put " + w[0] + " " + w[1] + " " + w[2], x.put(w[0], w[1], w[2]), false);
    }
    C.due("the spot stays", x.of(0, 0), 0);
    C.due("the price stays", x.of(0, 1), 5);
    C.due("the least price, the last spot", x.put(0, 102, 5), true);
    C.due("the most", x.put(0, 1, 9), true);
    C.due("as it is", x.put(0, 1, 9), true);
    int[] now = {1, 9, 1, 2, 1};
    for (int what = 0; what < 5; what++) {
      C.due("of " + what, x.of(0, what), now[what]);
    }
    forceLaw(x, "price 7;");
    C.due("of ASK, though a law has a price", x.put(0, 0, 6), true);
    C.due("the law's", x.of(0, 1), 7);
    x.force(NONE);
    C.due("its own", x.of(0, 1), 6);
  }

  /** "1 PRICE (as it's asked now: by a LAW's, too)", "NONE: none such." */
  private static void ofNoneSuch() {
    TwoBakers x = in("corner a;ask 0 9;");
    x.seller(0, 0, 0, 0, 0);
    x.seller(0, 9, 2, 3, 2);
    int[] wrong = {LEAST, -1, 5, 6, MOST};
    for (int what : wrong) {
      C.due("of 0, " + what, x.of(0, what), NONE);
    }
    int[] nobody = {LEAST, -1, 2, 3, 4, MOST};
    for (int seller : nobody) {
      C.due("of " + seller, x.of(seller, 0), NONE);
    }
    C.due("a price of 0", x.of(0, 1), 0);
    forceLaw(x, "price 0;");
    C.due("a law's price of 0", x.of(1, 1), 0);
    forceLaw(x, "price 3;price 4;");
    C.due("a law's last price", x.of(1, 1), 4);
    C.due("every seller's", x.of(0, 1), 4);
    forceLaw(x, "apart 3;");
    C.due("a law without a price", x.of(1, 1), 9);
  }

  /** "SOLD. NONE: none such." */
  private static void soldNoneSuch() {
    TwoBakers x = in("corner a people 1;corner b;");
    x.seller(1, 10, 0, 0, 0);
    C.due("nothing", x.sold(0), 0);
    int[] nobody = {LEAST, -1, 1, 4, MOST};
    for (int seller : nobody) {
      C.due("sold by " + seller, x.sold(seller), NONE);
    }
  }

  /** "What a CHAIN EARNS. NONE: none such." */
  private static void earnsNoneSuch() {
    TwoBakers x = in("corner a people 1;");
    x.seller(0, 10, 0, 3, 0);
    C.due("chain 3", x.earns(3), 240);
    int[] none = {LEAST, -1, 4, MOST};
    for (int chain : none) {
      C.due("chain " + chain, x.earns(chain), NONE);
    }
  }

  /** "PARTS that buy nowhere (people at corners and on streets that aren't shut)." */
  private static void homeOfStreetsThatAreOpen() {
    TwoBakers x = in("corner a people 1;corner b people 2;street a b 3 people 4;");
    C.due("all without sellers", x.home(), 24 * 15);
    forceLaw(x, "shut a b;");
    C.due("but those of a shut street", x.home(), 24 * 3);
    x.seller(0, 10, 0, 0, 0);
    C.due("who can't come", x.home(), 24 * 2);
    forceLaw(x, "shut a b;open a b 12;");
    C.due("nobody lives on one that's opened", x.home(), 0);
    C.due("over the opened one", x.sold(0), 24 * 3);
    x.put(0, 102, 10);
    C.due("nobody buys on a shut street", x.sold(0), 0);
    C.due("they are at home then", x.home(), 24 * 3);
  }

  /** "Where people at a corner buy: SELLERS (bits; 0: nowhere). NONE: none such." */
  private static void buysBits() {
    TwoBakers x = in("corner a people 1;corner b people 1;street a b 1;corner c people 1;ask 9 10;");
    C.due("without sellers", x.buys(0), 0);
    for (int i = 0; i < 4; i++) {
      x.seller(0, 10, 0, 0, 0);
      C.due("bits of " + i, x.buys(0), (2 << i) - 1);
    }
    x.put(3, 1, 9);
    C.due("three and the cheaper one", x.buys(0), 15);
    C.due("the cheaper one", x.buys(1), 8);
    C.due("no way", x.buys(2), 0);
    int[] none = {LEAST, -1, 3, 12, 101, MOST};
    for (int corner : none) {
      C.due("buys at " + corner, x.buys(corner), NONE);
    }
  }

  /** "best(..) NONE: none such." */
  private static void bestNoneSuch() {
    TwoBakers x = in("corner a people 1;corner b people 9;");
    x.seller(0, 10, 0, 0, 0);
    int[] wrong = {LEAST, -1, 3, MOST};
    for (int what : wrong) {
      C.due("best 0, " + what, x.best(0, what), NONE);
    }
    int[] nobody = {LEAST, -1, 1, 4, MOST};
    for (int seller : nobody) {
      C.due("best of " + seller, x.best(seller, 0), NONE);
    }
    C.due("best changes nothing", x.of(0, 0), 0);
  }

  /** "At REST: NONE (..) -2: no SELLERS." */
  private static void restNoSellers() {
    TwoBakers x = in("corner a people 1;corner b people 9;");
    C.due("no sellers", x.rest(), -2);
    x.seller(0, 10, 0, 0, 0);
    C.due("the first, 0", x.rest(), 0);
    x.put(0, 1, 10);
    C.due("at rest", x.rest(), NONE);
    C.due("rest changes nothing", x.of(0, 0), 1);
  }

  /** "A SELLER takes its BEST: true if it moved. False: none such, as it is." */
  private static void turnTrueIfItMoved() {
    TwoBakers x = in("corner a people 1;corner b people 9;ask 5 9;");
    x.seller(0, 7, 1, 2, 0);
    int[] nobody = {LEAST, -1, 1, 4, MOST};
    for (int seller : nobody) {
      C.due("turn " + seller, x.turn(seller), false);
    }
    C.due("turn", x.turn(0), true);
    int[] now = {1, 7, 1, 2, 0};
    for (int what = 0; what < 5; what++) {
      C.due("of " + what, x.of(0, what), now[what]);
    }
    C.due("as it is", x.turn(0), false);
    x.seller(1, 9, 0, 3, 1);
    C.due("turn a price", x.turn(1), true);
    C.due("its price", x.of(1, 1), 6);
    C.due("its spot", x.of(1, 0), 1);
    C.due("what was reckoned before is known as old", x.chase(1, 10), 0);
    x.put(0, 0, 7);
    x.chase(1, 10);
    forceLaw(x, "price 8;");
    x.put(1, 0, 9);
    C.due("turn by a law's price", x.turn(0), true);
    x.force(NONE);
    C.due("its own price stays", x.of(0, 1), 7);
  }

  /** "NONE: none such, no SELLERS." */
  private static void chaseNoneSuch() {
    TwoBakers x = in(CAT);
    C.due("no sellers", x.chase(1, 0), NONE);
    for (int many = 1; many <= 4; many++) {
      x.seller(0, 10, 0, 0, 2);
      int[] wrong = {LEAST, -1, 3, 9, 10 + many, 19, 20 + many, 24, 30, MOST};
      for (int what : wrong) {
        C.due("chase of " + many + ", " + what, x.chase(1, what), NONE);
      }
      C.due("the last spot of " + many, x.chase(1, 9 + many), 0);
      C.due("the last price of " + many, x.chase(1, 19 + many), 10);
      C.due("the first price of " + many, x.chase(1, 20), 10);
    }
  }
}
