import java.util.Random;

/** Calls by chance with any arguments: none may throw, and two objects with the same calls answer alike. */
public final class WildCallsTest {
  private static final Check CHECK = new Check("WildCallsTest");
  private static final int[] EDGES = {Integer.MIN_VALUE, Integer.MAX_VALUE, -1000, -3, -2, -1, 0, 1, 2, 3, 4, 5, 6, 7, 8, 9, 10, 11, 12, 13,
    20, 21, 22, 23, 59, 60, 61, 99, 100, 101, 102, 105, 111, 119, 120, 121, 199, 200, 235, 236, 300, 363, 364, 400, 411, 420};
  private static final String[] TOWNS = {
    "corner a people 9;corner b people 5;street a b 1;",
    "corner a people 10;corner b people 20;corner c people 3;corner d;street a b 12 people 3;street b c 5 people 20;"
        + "street c a 2 people 1;street c d 7;step 5;home 60;ask 0 20;",
    "corner a people 1 like rye 20;ask 0 4;home 0;step 3;",
    "corner a;corner b people 4;corner c people 4;corner d people 4;street a b 3 people 1;street c d 3 people 2;ask 2 5;"};
  private static final String[] LAWS = {"", "apart 99;", "shut a b;price 3;", "open a b 1;apart 2;", "shut c d;shut b a;", "price 10;"};

  public static void main(String[] args) {
    for (int seed = 0; seed < 1500; seed++) {
      Random one = new Random(seed);
      Random other = new Random(seed);
      TwoBakers x = new TwoBakers();
      TwoBakers y = new TwoBakers();
      for (int i = 0; i < 512; i++) {
        int seenX = call(x, one);
        CHECK.due("seed " + seed + " call " + i, call(y, other), seenX);
      }
    }
    CHECK.end();
  }

  private static int number(Random r) {
    return r.nextInt(3) > 0 ? r.nextInt(5) - 1 : r.nextInt(20) == 0 ? r.nextInt() : EDGES[r.nextInt(EDGES.length)];
  }

  private static int hash(long answer) {
    return Long.hashCode(answer);
  }

  private static int call(TwoBakers x, Random r) {
    int a = number(r);
    int b = number(r);
    int c = number(r);
    int d = number(r);
    int e = number(r);
    switch (r.nextInt(36)) {
      case 0: return x.feed(a, b, c, d, e);
      case 1: return x.town(a);
      case 2: return x.law(a);
      case 3: return x.fault();
      case 4: return x.told(a);
      case 5: return x.name(a, b);
      case 6: return x.far(a, b);
      case 7: return x.force(a) ? 1 : 0;
      case 8: case 9: return x.seller(a, b, c, d, e);
      case 10: return x.put(a, b, c) ? 1 : 0;
      case 11: return x.of(a, b);
      case 12: return hash(x.sold(a));
      case 13: return hash(x.earns(a));
      case 14: return hash(x.home());
      case 15: return x.buys(a);
      case 16: return hash(x.best(a, b));
      case 17: return x.rest();
      case 18: return x.turn(a) ? 1 : 0;
      case 19: return x.chase(a, b);
      case 20: return x.rests(a, b, c, d);
      case 21: return hash(x.lots(a, b, c, d, e));
      case 22: return hash(x.lead(a, b, c));
      case 23: return x.prices(a, b, c);
      case 24: return x.stage(a, b, c, d, e);
      case 25: return hash(x.walk(a, b));
      case 26: return hash(x.own(a, b));
      case 27: return hash(x.loss());
      case 28: return hash(x.bestLaw(a, b, c));
      case 29: return x.shift(a, b);
      case 30: return x.image();
      case 31: return x.back(a) ? 1 : 0;
      case 32: return x.count(a);
      case 33: return r.nextInt(6) == 0 ? takeTown(x, TOWNS[r.nextInt(TOWNS.length)]) : x.count(1);
      case 34: return Check.law(x, LAWS[r.nextInt(LAWS.length)]);
      default: return x.seller(r.nextInt(4), x.told(4) + r.nextInt(3), r.nextInt(3), r.nextInt(4), r.nextInt(3));
    }
  }

  private static int takeTown(TwoBakers x, String text) {
    x.town(0);
    return Check.town(x, text);
  }
}
