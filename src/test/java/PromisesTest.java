/** Each promise of the document in turn, by answers reckoned by hand. */
public final class PromisesTest {
  private static final Check C = new Check("PromisesTest");
  private static final int NONE = TwoBakers.NONE;
  private static final long NOTHING = -1000000000000L;
  private static final String LINE = "corner a people 10;corner bee people 20 like rye 4;corner c;"
      + "street a bee 4 people 2;street bee c 3 people 1;step 2;home 30;ask 5 9;";
  /** Two corners a step apart; all like to have the other's place. */
  private static final String PAIR = "corner a people 9;corner b people 5;street a b 1;";
  /** Rye is liked everywhere: who has it wants to stand by the other, who hasn't wants to be away. */
  private static final String CAT = "corner a people 10 like rye 3;corner b people 20 like rye 3;street a b 5;home 100;";

  public static void main(String[] args) {
    newObject();
    feed();
    town();
    law();
    told();
    names();
    far();
    force();
    sellers();
    put();
    sold();
    soldInParts();
    home();
    best();
    bestApart();
    restAndTurn();
    chase();
    rests();
    lots();
    lead();
    prices();
    stage();
    walk();
    ownAndLoss();
    bestLaw();
    shift();
    images();
    counts();
    memory();
    C.end();
  }

  private static TwoBakers with(String town) {
    TwoBakers x = new TwoBakers();
    C.due("town " + town, Check.town(x, town) > 0, true);
    return x;
  }

  private static void newObject() {
    TwoBakers x = new TwoBakers();
    C.due("NONE", TwoBakers.NONE, -1);
    int[] plain = {0, 0, 1, 9999, 10, 10, 0};
    for (int what = 0; what < 7; what++) {
      C.due("new told " + what, x.told(what), plain[what]);
    }
    int[] counts = {0, 0, 0, -1, 0, 0, 0, 0, -1};
    for (int what = 0; what < 9; what++) {
      C.due("new count " + what, x.count(what), counts[what]);
    }
    C.due("new fault", x.fault(), NONE);
    C.due("new home", x.home(), 0);
    C.due("new rest", x.rest(), -2);
    C.due("new chase", x.chase(5, 0), NONE);
    C.due("new far", x.far(0, 0), NONE);
    C.due("new walk", x.walk(0, NONE), NONE);
    C.due("new own", x.own(2, 0), NONE);
    C.due("new loss", x.loss(), NOTHING);
    C.due("new lead", x.lead(0, 1, 0), NOTHING);
    C.due("new image", x.image(), NONE);
    C.due("new back", x.back(0), false);
    C.due("new force NONE", x.force(NONE), true);
    C.due("new force 0", x.force(0), false);
    C.due("new earns", x.earns(0), 0);
    C.due("new seller", x.seller(0, 10, 0, 0, 0), NONE);
    C.due("law without a town", Check.law(x, "apart 3;price 10;"), 0);
    C.due("force without a town", x.force(0), true);
    C.due("corners in a law without a town", Check.law(x, "shut a b;"), NONE);
    C.due("its fault", x.fault(), 5);
  }

  private static void feed() {
    TwoBakers x = new TwoBakers();
    for (int i = 1; i <= 45; i++) {
      C.due("feed " + i, x.feed(0x20202020, 0x20202020, 0x20202020, 0x20202020, 0x20202020), 20 * i);
    }
    C.due("feed 46", x.feed(1, 2, 3, 4, 5), NONE);
    C.due("bytes", x.count(5), 900);
    C.due("town of 901", x.town(901), -2);
    C.due("bytes then", x.count(5), 900);
    C.due("town of blanks", x.town(900), NONE);
    C.due("its fault", x.fault(), 900);
    C.due("bytes behind it", x.count(5), 0);
    x.feed(0x636f726e, 0x65722071, 0x3b202020, 0xff000000, 0);
    C.due("highest first", x.town(9), 1);
    C.due("highest first: name", x.name(0, 0), 'q');
    x.feed(0x636f726e, 0x65722071, 0x3b202020, 0xff000000, 0);
    C.due("a byte 255", x.town(13), NONE);
    C.due("a byte 255: fault", x.fault(), 12);
  }

  private static void town() {
    TwoBakers x = with(LINE);
    x.seller(0, 5, 0, 0, 0);
    Check.law(x, "apart 2;");
    x.force(0);
    x.image();
    C.due("town below 0", x.town(-1), -2);
    C.due("fault is still of the law", x.fault(), NONE);
    Check.feed(x, "corner a;corner a;");
    C.due("town too long", x.town(21), -2);
    C.due("tape stays", x.count(5), 20);
    C.due("town with a fault", x.town(18), NONE);
    C.due("its fault", x.fault(), 16);
    C.due("tape is empty", x.count(5), 0);
    C.due("the town is as it was", x.told(0), 3);
    C.due("the seller too", x.count(1), 1);
    C.due("the law too", x.count(3), 0);
    C.due("the image too", x.count(4), 1);
    Check.feed(x, "corner z;corner y;corner");
    C.due("only the first bytes", x.town(9), 1);
    C.due("the rest is gone", x.count(5), 0);
    C.due("sellers are gone", x.count(1), 0);
    C.due("laws are gone", x.count(2), 0);
    C.due("none in force", x.count(3), NONE);
    C.due("images are gone", x.count(4), 0);
    C.due("towns", x.count(0), 2);
    C.due("fault is none", x.fault(), NONE);
    C.due("home as without", x.told(3), 9999);
  }

  private static void law() {
    TwoBakers x = with(PAIR);
    C.due("law below 0", x.law(-1), -2);
    C.due("law too long", x.law(1), -2);
    for (int i = 0; i < 9; i++) {
      C.due("law " + i, Check.law(x, "apart " + i + ";"), i);
    }
    Check.feed(x, "apart x;");
    C.due("a tenth", x.law(8), -3);
    C.due("doing nothing", x.count(5), 20);
    C.due("its fault", x.fault(), NONE);
    C.due("too long with nine", x.law(21), -2);
    C.due("laws", x.count(2), 9);
  }

  private static void told() {
    TwoBakers x = with("step 2;step 3;home 5;home 77;ask 1 2;ask 7 27;corner a like rye 3 like rye 5 like white 20;"
        + "corner b people 99;street b a 12 people 20;corner c people 1 like brown 1;street c b 1;");
    int[] plain = {3, 2, 3, 77, 7, 27, 11};
    for (int what = 0; what < 7; what++) {
      C.due("told " + what, x.told(what), plain[what]);
    }
    C.due("told 7", x.told(7), NONE);
    C.due("told -1", x.told(-1), NONE);
    int[] people = {0, 99, 1, NONE};
    int[] likes = {20, 0, 5, 0, 0, 0, 0, 1, 0, NONE};
    int[] streets = {1, 0, 12, 20, 2, 1, 1, 0, NONE};
    for (int i = 0; i < people.length; i++) {
      C.due("people " + i, x.told(100 + i), people[i]);
    }
    for (int i = 0; i < likes.length; i++) {
      C.due("likes " + i, x.told(200 + i), likes[i]);
    }
    for (int i = 0; i < streets.length; i++) {
      C.due("streets " + i, x.told(300 + i), streets[i]);
    }
    C.due("told 99", x.told(99), NONE);
    C.due("told most", x.told(Integer.MAX_VALUE), NONE);
    C.due("told least", x.told(Integer.MIN_VALUE), NONE);
  }

  private static void names() {
    TwoBakers x = with(LINE);
    C.due("length", x.name(1, NONE), 3);
    C.due("letter 0", x.name(1, 0), 'b');
    C.due("letter 2", x.name(1, 2), 'e');
    C.due("letter 3", x.name(1, 3), NONE);
    C.due("letter -2", x.name(1, -2), NONE);
    C.due("corner 3", x.name(3, NONE), NONE);
    C.due("corner -1", x.name(-1, 0), NONE);
  }

  private static void far() {
    TwoBakers x = with("corner a;corner b;corner c;corner d;street a b 10;street b c 1;street c a 2;");
    C.due("around", x.far(0, 1), 3);
    C.due("itself", x.far(105, 105), 0);
    C.due("on one street", x.far(104, 106), 2);
    C.due("on one street, around", x.far(101, 109), 5);
    C.due("to a corner", x.far(101, 1), 4);
    C.due("from a corner", x.far(1, 101), 4);
    C.due("on two streets", x.far(141, 109), 3);
    C.due("no way", x.far(0, 3), NONE);
    C.due("itself without a way", x.far(3, 3), 0);
    int[] none = {4, 12, -1, 99, 100, 110, 120, 121, 142, 160, 500, Integer.MIN_VALUE, Integer.MAX_VALUE};
    for (int spot : none) {
      C.due("no such spot " + spot, x.far(spot, 0), NONE);
      C.due("to no such spot " + spot, x.far(0, spot), NONE);
    }
    Check.law(x, "shut a c;open d a 12;open d a 7;open c a 5;");
    x.force(0);
    C.due("by a law, shut and opened", x.far(0, 2), 5);
    C.due("by a law, the nearer of two", x.far(0, 3), 7);
    C.due("shut spot", x.far(141, 141), NONE);
    C.due("from a shut spot", x.far(141, 2), NONE);
    C.due("to a shut spot", x.far(101, 141), NONE);
    Check.law(x, "open d a 3;shut d a;open a b 1;shut b a;");
    x.force(1);
    C.due("opened, then shut", x.far(0, 3), NONE);
    C.due("both streets between are shut", x.far(0, 1), 3);
    x.force(NONE);
    C.due("without a law again", x.far(0, 2), 2);
  }

  private static void force() {
    TwoBakers x = with(LINE);
    Check.law(x, "price 7;");
    x.seller(0, 5, 0, 0, 0);
    C.due("force 1", x.force(1), false);
    C.due("force -2", x.force(-2), false);
    C.due("force 0", x.force(0), true);
    C.due("in force", x.count(3), 0);
    C.due("its price", x.of(0, 1), 7);
    C.due("price by which it earns", x.earns(0), 7 * x.sold(0));
    C.due("force NONE", x.force(NONE), true);
    C.due("the seller's own price", x.of(0, 1), 5);
    C.due("in force then", x.count(3), NONE);
  }

  private static void sellers() {
    TwoBakers x = with(LINE);
    int[][] wrong = {{3, 5, 0, 0, 0}, {-1, 5, 0, 0, 0}, {100, 5, 0, 0, 0}, {104, 5, 0, 0, 0}, {0, 4, 0, 0, 0}, {0, 10, 0, 0, 0},
      {0, 5, 3, 0, 0}, {0, 5, -1, 0, 0}, {0, 5, 0, 4, 0}, {0, 5, 0, -1, 0}, {0, 5, 0, 0, 3}, {0, 5, 0, 0, -1}};
    for (int[] w : wrong) {
      C.due("seller not as told", x.seller(w[0], w[1], w[2], w[3], w[4]), NONE);
    }
    C.due("no seller", x.count(1), 0);
    C.due("seller 0", x.seller(122, 9, 2, 3, 1), 0);
    int[] told = {122, 9, 2, 3, 1, NONE};
    for (int what = 0; what < 6; what++) {
      C.due("of " + what, x.of(0, what), told[what]);
    }
    C.due("of -1", x.of(0, -1), NONE);
    C.due("of seller 1", x.of(1, 0), NONE);
    C.due("of seller -1", x.of(-1, 0), NONE);
    C.due("seller 1", x.seller(0, 5, 0, 0, 0), 1);
    C.due("seller 2", x.seller(0, 5, 0, 0, 2), 2);
    C.due("seller 3", x.seller(0, 5, 0, 0, 2), 3);
    C.due("seller 4", x.seller(0, 5, 0, 0, 2), NONE);
    C.due("sellers", x.count(1), 4);
  }

  private static void put() {
    TwoBakers x = with(LINE);
    x.seller(0, 5, 1, 2, 1);
    C.due("put", x.put(0, 103, 9), true);
    C.due("spot", x.of(0, 0), 103);
    C.due("price", x.of(0, 1), 9);
    C.due("bread stays", x.of(0, 2), 1);
    C.due("put nobody", x.put(1, 0, 5), false);
    C.due("put nobody -1", x.put(-1, 0, 5), false);
    C.due("put nowhere", x.put(0, 104, 5), false);
    C.due("put too dear", x.put(0, 0, 10), false);
    C.due("put too cheap", x.put(0, 0, 4), false);
    C.due("spot then", x.of(0, 0), 103);
  }

  private static void sold() {
    TwoBakers x = with(LINE);
    x.seller(0, 5, 0, 0, 2);
    x.seller(2, 5, 2, 1, 2);
    C.due("sold 0", x.sold(0), 816);
    C.due("sold 1", x.sold(1), 1152);
    C.due("sold 2", x.sold(2), NONE);
    C.due("sold -1", x.sold(-1), NONE);
    C.due("earns 0", x.earns(0), 4080);
    C.due("earns 1", x.earns(1), 5760);
    C.due("earns 3, without sellers", x.earns(3), 0);
    C.due("earns 4", x.earns(4), NONE);
    C.due("earns -1", x.earns(-1), NONE);
    C.due("home", x.home(), 0);
    C.due("buys 0", x.buys(0), 1);
    C.due("buys 1", x.buys(1), 2);
    C.due("buys 2, without people", x.buys(2), 2);
    C.due("buys 3", x.buys(3), NONE);
    C.due("buys -1", x.buys(-1), NONE);
    x.seller(2, 6, 0, 1, 2);
    C.due("a chain's earns are of all its sellers", x.earns(1), 5760);
    Check.law(x, "shut a bee;");
    x.force(0);
    C.due("cut off: sold 0", x.sold(0), 480);
    C.due("cut off: sold 1", x.sold(1), 1104);
    C.due("those of a shut street aren't at home", x.home(), 0);
    x.put(0, 101, 5);
    C.due("nobody buys on a shut street", x.sold(0), 0);
    C.due("who stands there", x.home(), 480);
    C.due("buys then", x.buys(0), 0);
  }

  private static void soldInParts() {
    TwoBakers x = with("corner a people 1;corner b;street a b 3 people 1;step 5;ask 0 20;");
    for (int i = 0; i < 3; i++) {
      x.seller(0, 7, i, i, 2);
    }
    C.due("a third", x.sold(1), 4 * 120 / 3);
    C.due("buys, all three", x.buys(0), 7);
    x.seller(1, 9, 0, 3, 2);
    C.due("beyond the border, one price of two off", x.sold(3), 12 * (30 - (9 - 7 + 15)));
    C.due("before it", x.sold(0), 40 + 12 * 17 / 3);
    x.put(1, 102, 7);
    x.put(2, 102, 20);
    C.due("from a street's middle", x.sold(1), 12 * (10 + 9 - 7 + 5 * 1));
    C.due("on the far side of it", x.sold(3), 12 * (10 - (9 - 7 + 5)));
    C.due("too dear on the same spot", x.sold(2), 0);
    C.due("alone at the corner", x.sold(0), 120 + 12 * 10);
    x = with("corner a;corner b;street a b 10 people 1;corner c;street b c 1;street c a 1;");
    x.seller(101, 10, 0, 0, 2);
    x.seller(109, 10, 0, 1, 2);
    C.due("both ways round a street", x.sold(0), 24 * 5);
    x.put(1, 101, 10);
    C.due("two on one spot", x.sold(1), 24 * 5);
  }

  private static void home() {
    TwoBakers x = with(LINE.replace("home 30", "home 8"));
    C.due("nobody sells", x.home(), 1968);
    x.seller(0, 5, 0, 0, 2);
    C.due("a step and a half", x.sold(0), 624);
    C.due("the others stay at home", x.home(), 1344);
    x.put(0, 0, 8);
    C.due("alike is let", x.sold(0), 480);
    x.put(0, 0, 9);
    C.due("above isn't", x.sold(0), 0);
    C.due("nowhere", x.buys(0), 0);
    x = with("corner a people 1 like rye 4;home 5;ask 9 10;");
    x.seller(0, 9, 2, 0, 2);
    C.due("less what they like", x.sold(0), 24);
    x.put(0, 0, 10);
    C.due("one too dear", x.home(), 24);
  }

  private static void best() {
    TwoBakers x = with("corner a;corner b people 5;corner c people 5;street a b 1;street b c 2;ask 5 9;home 9;");
    x.seller(0, 9, 0, 0, 0);
    C.due("least of several", x.best(0, 0), 1);
    C.due("its earns", x.best(0, 1), 5 * 24 * 9);
    C.due("rather", x.best(0, 2), 1);
    C.due("best 3", x.best(0, 3), NONE);
    C.due("best -1", x.best(0, -1), NONE);
    C.due("best of nobody", x.best(1, 0), NONE);
    x.put(0, 2, 9);
    C.due("as it is, of several", x.best(0, 0), 2);
    C.due("rather then", x.best(0, 2), 0);
    x.put(0, 2, 8);
    C.due("in the middle, both", x.best(0, 0), 121);
    C.due("both earn", x.best(0, 1), 10 * 24 * 8);
    x = with("corner a people 4;corner b people 4;street a b 3;ask 5 9;home 9;");
    x.seller(0, 5, 0, 0, 1);
    C.due("best price", x.best(0, 0), 6);
    C.due("best price earns", x.best(0, 1), 8 * 24 * 6);
    Check.law(x, "price 8;");
    x.force(0);
    C.due("a law's price alone", x.best(0, 0), 8);
    C.due("not rather", x.best(0, 2), 0);
    C.due("turn by it", x.turn(0), false);
    x.force(NONE);
    x.seller(1, 5, 0, 0, 2);
    C.due("who stays: spot", x.best(1, 0), 1);
    C.due("who stays: not rather", x.best(1, 2), 0);
    C.due("for the chain", x.best(0, 0), 7);
    C.due("the chain's earns", x.best(0, 1), 4 * 24 * (7 + 5));
    C.due("who stays: its chain's earns", x.best(1, 1), 2 * 4 * 24 * 5);
  }

  private static void bestApart() {
    TwoBakers x = with("corner a people 9;corner b people 1;corner c people 2;street a b 4;street c a 2;corner d people 8;");
    x.seller(0, 10, 0, 0, 2);
    x.seller(1, 10, 0, 1, 0);
    Check.law(x, "apart 3;");
    Check.law(x, "apart 5;shut a b;");
    C.due("no way is no bar", x.best(1, 0), 3);
    x.force(0);
    C.due("no way is no bar with apart", x.best(1, 0), 3);
    x.put(0, 3, 10);
    C.due("all come where it is", x.best(1, 0), 1);
    x.put(0, 0, 10);
    x.put(1, 121, 10);
    C.due("as it is though too near", x.best(1, 2), 1);
    x.force(1);
    C.due("the shut street has no moves", x.best(1, 0), 3);
    x.put(1, 102, 10);
    C.due("from a shut street", x.best(1, 0), 3);
    C.due("from a shut street rather", x.best(1, 2), 1);
    x = with("corner a people 9;corner b;street a b 2;");
    x.seller(0, 10, 0, 0, 2);
    x.seller(0, 10, 0, 1, 0);
    Check.law(x, "apart 3;");
    x.force(0);
    C.due("where it is, though too near", x.best(1, 0), 0);
  }

  private static void restAndTurn() {
    TwoBakers x = with(PAIR);
    C.due("no sellers", x.rest(), -2);
    x.seller(1, 10, 0, 0, 2);
    x.seller(1, 10, 0, 1, 0);
    C.due("the first that would rather", x.rest(), 1);
    C.due("turn who stays", x.turn(0), false);
    C.due("turn nobody", x.turn(2), false);
    C.due("turn nobody -1", x.turn(-1), false);
    C.due("turn", x.turn(1), true);
    C.due("moved", x.of(1, 0), 0);
    C.due("turn again", x.turn(1), false);
    C.due("at rest", x.rest(), NONE);
    x = with("corner a people 4;home 9;ask 5 9;");
    x.seller(0, 5, 0, 0, 1);
    C.due("turn a price", x.turn(0), true);
    C.due("its price", x.of(0, 1), 9);
    C.due("its spot", x.of(0, 0), 0);
  }

  private static void chase() {
    TwoBakers x = with(CAT);
    x.seller(0, 10, 2, 0, 0);
    x.seller(0, 10, 0, 1, 0);
    C.due("a ring", x.chase(10, 0), 1);
    C.due("its rounds", x.chase(10, 1), 3);
    C.due("its length", x.chase(10, 2), 2);
    C.due("first seller at its end", x.chase(10, 10), 0);
    C.due("second seller at its end", x.chase(10, 11), 1);
    C.due("price at its end", x.chase(10, 21), 10);
    C.due("a ring in the last round", x.chase(3, 0), 1);
    C.due("spent", x.chase(2, 0), 2);
    C.due("spent rounds", x.chase(2, 1), 2);
    C.due("spent ring", x.chase(2, 2), 0);
    int[] none = {-1, 3, 9, 12, 19, 22, Integer.MAX_VALUE};
    for (int what : none) {
      C.due("chase " + what, x.chase(10, what), NONE);
    }
    C.due("no rounds", x.chase(0, 0), NONE);
    C.due("61 rounds", x.chase(61, 0), NONE);
    C.due("60 rounds", x.chase(60, 0), 1);
    C.due("all is as before", x.of(1, 0), 0);
    x = with(PAIR);
    x.seller(1, 10, 0, 0, 0);
    C.due("at rest", x.chase(9, 0), 0);
    C.due("with the round of rest", x.chase(9, 1), 1);
    C.due("spot at rest", x.chase(9, 10), 1);
    x.seller(1, 10, 0, 1, 0);
    C.due("now others", x.chase(9, 10), 0);
    C.due("one round of rest alone", x.chase(1, 0), 2);
  }

  private static void rests() {
    TwoBakers x = with(PAIR);
    x.seller(0, 10, 0, 0, 0);
    x.seller(0, 10, 0, 0, 1);
    C.due("one rest", x.rests(0, 1, NONE, NONE), 1);
    C.due("both at a", x.rests(0, 1, NONE, 0), 0);
    C.due("no second", x.rests(0, 1, NONE, 1), NONE);
    C.due("k -2", x.rests(0, 1, NONE, -2), NONE);
    C.due("alike", x.rests(1, 1, NONE, NONE), NONE);
    C.due("no such", x.rests(0, 2, NONE, NONE), NONE);
    C.due("no such z", x.rests(0, 1, 2, NONE), NONE);
    C.due("z as x", x.rests(0, 1, 0, NONE), NONE);
    C.due("z -2", x.rests(0, 1, -2, NONE), NONE);
    x.seller(1, 10, 0, 3, 2);
    C.due("three", x.rests(0, 1, 2, NONE), 3);
    C.due("first of three", x.rests(0, 1, 2, 0), 1);
    C.due("second of three", x.rests(0, 1, 2, 1), 16);
    C.due("third of three", x.rests(0, 1, 2, 2), 256);
    C.due("two beside one who stays at b", x.rests(0, 1, NONE, 0), 0);
    Check.law(x, "apart 1;");
    x.force(0);
    C.due("apart: none is let beside b's", x.rests(0, 1, NONE, NONE), 0);
    x.put(2, 0, 10);
    C.due("apart: no row", x.rests(0, 2, NONE, NONE), 0);
  }

  private static void lots() {
    TwoBakers x = with(CAT);
    x.seller(0, 10, 2, 0, 0);
    x.seller(0, 10, 0, 1, 0);
    long[] due = {1, 3, 2, 3};
    for (int what = 0; what < 4; what++) {
      C.due("lots " + what, x.lots(0, 1, 0, 1, what), due[what]);
    }
    C.due("the other way round, y's", x.lots(0, 1, 1, 0, 0), 2);
    C.due("the others first", x.lots(1, 0, 0, 1, 0), 2);
    C.due("lots 4", x.lots(0, 1, 0, 1, 4), NONE);
    C.due("lots -1", x.lots(0, 1, 0, 1, -1), NONE);
    C.due("alike corners", x.lots(0, 1, 0, 0, 0), NONE);
    C.due("no such corner", x.lots(0, 1, 0, 2, 0), NONE);
    C.due("alike sellers", x.lots(0, 0, 0, 1, 0), NONE);
    C.due("no such seller", x.lots(0, 2, 0, 1, 0), NONE);
    Check.law(x, "apart 1;");
    x.force(0);
    C.due("a row that isn't let", x.lots(0, 1, 0, 1, 0), NONE);
    x = with(PAIR);
    x.seller(0, 10, 0, 0, 0);
    x.seller(0, 10, 0, 1, 0);
    C.due("a rest", x.lots(0, 1, 0, 1, 0), NONE);
  }

  private static void lead() {
    TwoBakers x = with(CAT);
    x.seller(0, 10, 2, 0, 0);
    x.seller(0, 10, 0, 1, 0);
    long[] due = {1, 0, 4800, 2400, -2400};
    for (int what = 0; what < 5; what++) {
      C.due("lead " + what, x.lead(0, 1, what), due[what]);
    }
    long[] other = {0, 0, 0, 7200, -2400};
    for (int what = 0; what < 5; what++) {
      C.due("y leads " + what, x.lead(1, 0, what), other[what]);
    }
    C.due("lead 5", x.lead(0, 1, 5), NOTHING);
    C.due("lead -1", x.lead(0, 1, -1), NOTHING);
    C.due("lead alike", x.lead(1, 1, 0), NOTHING);
    C.due("lead no such", x.lead(0, 2, 0), NOTHING);
    Check.law(x, "apart 6;");
    x.force(0);
    C.due("no row is let", x.lead(0, 1, 0), NOTHING);
  }

  private static void prices() {
    TwoBakers x = with("corner a people 6;ask 0 3;");
    x.seller(0, 0, 0, 0, 2);
    x.seller(0, 0, 0, 1, 2);
    C.due("how many", x.prices(0, 1, NONE), 3);
    C.due("0 and 0", x.prices(0, 1, 0), 0);
    C.due("1 and 1", x.prices(0, 1, 1), 101);
    C.due("2 and 2: half of four is as one of two", x.prices(0, 1, 2), 202);
    C.due("prices 3", x.prices(0, 1, 3), NONE);
    C.due("prices -2", x.prices(0, 1, -2), NONE);
    C.due("prices alike", x.prices(0, 0, NONE), NONE);
    C.due("prices no such", x.prices(0, 2, NONE), NONE);
    Check.law(x, "price 3;");
    x.force(0);
    C.due("a law's alone", x.prices(0, 1, NONE), 1);
    C.due("a law's", x.prices(0, 1, 0), 303);
  }

  private static void stage() {
    TwoBakers x = with("corner a people 6;corner b people 4;street a b 12;step 5;ask 1 3;home 3;");
    x.seller(0, 1, 0, 0, 2);
    x.seller(0, 1, 0, 1, 2);
    C.due("row: apart each asks most", x.stage(0, 1, 0, 1, 0), 1);
    C.due("x's price", x.stage(0, 1, 0, 1, 1), 3);
    C.due("y's price", x.stage(0, 1, 0, 1, 2), 3);
    C.due("stage 3", x.stage(0, 1, 0, 1, 3), NONE);
    C.due("stage -1", x.stage(0, 1, 0, 1, -1), NONE);
    C.due("stage on one corner", x.stage(0, 1, 0, 0, 0), NONE);
    C.due("stage nowhere", x.stage(0, 1, 0, 2, 0), NONE);
    C.due("stage alike", x.stage(0, 0, 0, 1, 0), NONE);
    Check.law(x, "price 1;");
    x.force(0);
    C.due("by a law's price", x.stage(0, 1, 0, 1, 0), 1);
    C.due("a law's price", x.stage(0, 1, 0, 1, 1), 1);
    Check.law(x, "apart 13;");
    x.force(1);
    C.due("too near either way", x.stage(0, 1, 0, 1, 0), 1 - 2);
    x = with(CAT);
    x.seller(0, 10, 2, 0, 0);
    x.seller(0, 10, 0, 1, 0);
    C.due("no row at rest", x.stage(0, 1, 0, 1, 0), NONE);
    x = with("corner a people 6;corner b people 4 like rye 2;street a b 12;step 5;ask 1 5;home 3;");
    x.seller(0, 1, 0, 0, 2);
    x.seller(0, 1, 2, 1, 2);
    C.due("y where rye is liked", x.stage(0, 1, 0, 1, 0), 1);
    C.due("x asks what HOME lets", x.stage(0, 1, 0, 1, 1), 3);
    C.due("y asks what they like it more", x.stage(0, 1, 0, 1, 2), 5);
    C.due("the first row at rest, though y's rye is liked elsewhere", x.stage(1, 0, 0, 1, 0), 1);
    C.due("rye where nobody likes it", x.stage(1, 0, 0, 1, 1), 3);
  }

  private static void walk() {
    TwoBakers x = with(LINE);
    C.due("of one corner", x.walk(0, NONE), 8 * (20 * 4 + 2 * 8) + 8 * 3 * 4 + 4 * 9);
    C.due("of two", x.walk(0, 1), 8 * 2 * 4 + 4 * 9);
    C.due("of one twice", x.walk(1, 1), x.walk(1, NONE));
    C.due("from a street's middle", x.walk(102, NONE), 8 * (10 * 2 + 20 * 2) + 8 * 2 * 4 + 8 * 3 * 2 + 4 * 9);
    C.due("no such", x.walk(3, NONE), NONE);
    C.due("no such other", x.walk(0, 3), NONE);
    C.due("NONE first", x.walk(NONE, 0), NONE);
    C.due("-2", x.walk(0, -2), NONE);
    Check.law(x, "shut bee a;");
    x.force(0);
    C.due("somebody can't come", x.walk(0, NONE), NONE);
    C.due("nobody walks on a shut street", x.walk(0, 1), 4 * 9);
    C.due("to a shut spot", x.walk(101, NONE), NONE);
    C.due("a shut spot helps nobody", x.walk(101, 1), NONE);
    x = with("corner a;corner b;");
    C.due("nobody is there", x.walk(0, NONE), 0);
  }

  private static void ownAndLoss() {
    TwoBakers x = with("corner a people 1;corner b people 5;corner c people 5;street a b 2;street b c 2;");
    C.due("own 1 walk", x.own(1, 0), 8 * 12);
    C.due("own 1", x.own(1, 1), 1);
    C.due("own 1 second", x.own(1, 2), NONE);
    C.due("own 2 walk", x.own(2, 0), 8 * 2);
    C.due("own 2 first", x.own(2, 1), 1);
    C.due("own 2 second", x.own(2, 2), 2);
    C.due("own 2, 3", x.own(2, 3), NONE);
    C.due("own 2, -1", x.own(2, -1), NONE);
    C.due("own 0", x.own(0, 0), NONE);
    C.due("own 3", x.own(3, 0), NONE);
    x.seller(0, 10, 0, 0, 0);
    C.due("loss of one", x.loss(), 8 * (10 + 20) - 8 * 12);
    x.seller(1, 10, 0, 0, 0);
    C.due("loss of two", x.loss(), 8 * 10 - 8 * 2);
    x.seller(2, 10, 0, 0, 0);
    C.due("loss of three", x.loss(), -16);
    Check.law(x, "shut a b;shut b c;");
    x.force(0);
    C.due("no own", x.own(2, 0), NONE);
    C.due("no own, no corner", x.own(2, 1), NONE);
    C.due("no loss", x.loss(), NOTHING);
    x = with("corner a;corner b;");
    C.due("of several the least", x.own(2, 1), 0);
    C.due("of several the least second", x.own(2, 2), 1);
    x = with("corner a people 3;");
    C.due("one corner isn't two", x.own(2, 0), NONE);
    x.seller(0, 10, 0, 0, 0);
    C.due("one seller needs one", x.loss(), 0);
  }

  private static void bestLaw() {
    TwoBakers x = with(PAIR);
    x.seller(0, 10, 0, 0, 0);
    x.seller(0, 10, 0, 1, 0);
    C.due("no law", x.bestLaw(0, 1, 0), 9);
    C.due("its walk", x.bestLaw(0, 1, 1), 40);
    C.due("its rests", x.bestLaw(0, 1, 2), 1);
    Check.law(x, "");
    C.due("no law is ahead", x.bestLaw(0, 1, 0), 9);
    Check.law(x, "apart 1;");
    Check.law(x, "shut a b;");
    C.due("apart", x.bestLaw(0, 1, 0), 1);
    C.due("apart walk", x.bestLaw(0, 1, 1), 0);
    C.due("apart rests", x.bestLaw(0, 1, 2), 2);
    C.due("none in force by it", x.count(3), NONE);
    x.force(2);
    C.due("whichever is in force", x.bestLaw(0, 1, 0), 1);
    C.due("and it stays", x.far(0, 1), NONE);
    C.due("bestLaw 3", x.bestLaw(0, 1, 3), NONE);
    C.due("bestLaw -1", x.bestLaw(0, 1, -1), NONE);
    C.due("bestLaw alike", x.bestLaw(1, 1, 0), NONE);
    C.due("bestLaw no such", x.bestLaw(0, 2, 0), NONE);
    x = with(CAT);
    x.seller(0, 10, 2, 0, 0);
    x.seller(0, 10, 0, 1, 0);
    C.due("none has a rest", x.bestLaw(0, 1, 0), NONE);
    Check.law(x, "apart 5;");
    C.due("a law has", x.bestLaw(0, 1, 0), 0);
    C.due("both ways", x.bestLaw(0, 1, 2), 2);
  }

  private static void shift() {
    TwoBakers x = with(PAIR);
    C.due("no sellers", x.shift(0, 1), NONE);
    x.seller(0, 10, 0, 0, 0);
    x.seller(0, 10, 0, 1, 0);
    C.due("three", x.shift(0, 1), 3);
    C.due("the other way none", x.shift(1, 0), NONE);
    C.due("to itself", x.shift(0, 0), NONE);
    C.due("no such a", x.shift(2, 0), NONE);
    C.due("no such b", x.shift(0, -1), NONE);
    C.due("nobody went", x.told(100), 9);
    x.put(0, 1, 10);
    x.put(1, 1, 10);
    C.due("not at rest", x.shift(0, 1), NONE);
  }

  private static void images() {
    TwoBakers x = with(LINE);
    C.due("no sellers", x.image(), NONE);
    x.seller(0, 5, 0, 1, 0);
    Check.law(x, "price 9;");
    C.due("image 0", x.image(), 0);
    x.force(0);
    x.put(0, 1, 6);
    x.seller(1, 5, 0, 1, 0);
    C.due("image 1", x.image(), 1);
    C.due("back 0", x.back(0), true);
    C.due("sellers", x.count(1), 1);
    C.due("spot", x.of(0, 0), 0);
    C.due("price", x.of(0, 1), 5);
    C.due("law", x.count(3), NONE);
    C.due("who was told since is gone", x.of(1, 0), NONE);
    C.due("back 1, ahead in time", x.back(1), true);
    C.due("sellers then", x.count(1), 2);
    C.due("law then", x.count(3), 0);
    C.due("price then", x.of(0, 1), 9);
    x.force(NONE);
    C.due("own price then", x.of(0, 1), 6);
    C.due("image 2", x.image(), 2);
    C.due("image 3", x.image(), 3);
    C.due("image 4", x.image(), NONE);
    C.due("back 4", x.back(4), false);
    C.due("back -1", x.back(-1), false);
    C.due("images", x.count(4), 4);
    Check.law(x, "apart 1;");
    x.back(0);
    C.due("laws stay", x.count(2), 2);
  }

  private static void counts() {
    TwoBakers x = with(LINE);
    int[] due = {1, 0, 0, NONE, 0, 0, 8, 1968, NONE};
    for (int what = 0; what < due.length; what++) {
      C.due("count " + what, x.count(what), due[what]);
    }
    C.due("count -1", x.count(-1), NONE);
    Check.law(x, "shut a bee;open a c 12;");
    x.force(0);
    C.due("spots on streets that aren't shut", x.count(6), 5);
    C.due("people likewise", x.count(7), 48 * 33);
  }

  /** What was reckoned once must not outlive a change. */
  private static void memory() {
    TwoBakers x = with(CAT + "ask 5 10;");
    x.seller(0, 10, 2, 0, 0);
    x.seller(0, 10, 0, 1, 0);
    C.due("rests before", x.rests(0, 1, NONE, NONE), 0);
    C.due("chase before", x.chase(10, 0), 1);
    int many = x.prices(0, 1, NONE);
    x.stage(0, 1, 0, 1, 0);
    C.due("prices behind a stage", x.prices(0, 1, NONE), many);
    x.bestLaw(0, 1, 0);
    C.due("rests behind bestLaw", x.rests(0, 1, NONE, NONE), 0);
    x.put(0, 0, 5);
    C.due("rests behind put", x.rests(0, 1, NONE, NONE) == 0, false);
    C.due("chase behind put", x.chase(10, 0), 0);
    Check.law(x, "apart 6;");
    x.force(0);
    C.due("rests by a law", x.rests(0, 1, NONE, NONE), 0);
    x.force(NONE);
    C.due("rests without it", x.rests(0, 1, NONE, NONE) == 0, false);
    x = with(PAIR);
    x.seller(0, 10, 0, 0, 0);
    x.seller(0, 10, 0, 1, 0);
    Check.law(x, "apart 1;");
    C.due("rests ahead of bestLaw", x.rests(0, 1, NONE, NONE), 1);
    C.due("bestLaw by another law", x.bestLaw(0, 1, 2), 2);
    C.due("rests again without the law", x.rests(0, 1, NONE, NONE), 1);
    C.due("sold without the law", x.sold(0), 168);
  }
}
