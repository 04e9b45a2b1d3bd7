import java.util.ArrayList;
import java.util.List;
import java.util.Random;

/** Runs of calls by chance on chance towns, each answer set against the slow reckoning of Plain. */
public final class ModelTest {
  private static final Check CHECK = new Check("ModelTest");

  private final Random random;
  private final TwoBakers x = new TwoBakers();
  private final Plain plain = new Plain();
  private final int seed;

  private ModelTest(int seed) {
    this.seed = seed;
    this.random = new Random(seed);
  }

  public static void main(String[] args) {
    int from = args.length > 0 ? Integer.parseInt(args[0]) : 0;
    int to = args.length > 1 ? Integer.parseInt(args[1]) : 500;
    for (int seed = from; seed < to; seed++) {
      new ModelTest(seed).run();
    }
    CHECK.end();
  }

  private void run() {
    int size = random.nextInt(60) == 0 ? 12 : random.nextInt(8) == 0 ? 6 : 1 + random.nextInt(4);
    due("town", Check.town(x, makeTown(size)), size);
    for (int i = random.nextInt(4); i > 0; i--) {
      due("law", Check.law(x, makeLaw()), plain.laws.size() - 1);
    }
    for (int i = 1 + random.nextInt(4); i > 0; i--) {
      addSeller();
    }
    for (int i = 0; i < 40; i++) {
      change();
      ask();
    }
  }

  private void due(String call, long got, long want) {
    CHECK.due("seed " + seed + " " + call, got, want);
  }

  private void due(String call, boolean got, boolean want) {
    CHECK.due("seed " + seed + " " + call, got, want);
  }

  private static String name(int corner) {
    return "" + (char) ('a' + corner);
  }

  private String makeTown(int size) {
    StringBuilder text = new StringBuilder();
    boolean likes = random.nextBoolean();
    plain.people = new int[size];
    plain.like = new int[size][3];
    for (int k = 0; k < size; k++) {
      plain.people[k] = random.nextInt(4) == 0 ? 0 : random.nextInt(random.nextBoolean() ? 12 : 100);
      text.append("corner ").append(name(k)).append(" people ").append(plain.people[k]);
      for (int i = likes ? random.nextInt(3) : 0; i > 0; i--) {
        int bread = random.nextInt(3);
        plain.like[k][bread] = random.nextInt(21);
        text.append(" like ").append(new String[] {"white", "brown", "rye"}[bread]).append(' ').append(plain.like[k][bread]);
      }
      text.append(";");
    }
    int density = size == 12 ? 1 : 1 + random.nextInt(4);
    int longest = random.nextBoolean() ? 4 : 12;
    for (int a = 0; a < size; a++) {
      for (int b = a + 1; b < size; b++) {
        if (random.nextInt(4) < density && plain.streets.size() < 16 && text.length() < 840) {
          boolean turned = random.nextBoolean();
          int people = random.nextInt(3) == 0 ? 0 : random.nextInt(21);
          Plain.Street s = new Plain.Street(turned ? b : a, turned ? a : b, 1 + random.nextInt(longest), people);
          plain.streets.add(s);
          text.append("street ").append(name(s.a())).append(' ').append(name(s.b())).append(' ').append(s.steps());
          text.append(people == 0 ? "" : " people " + people).append(';');
        }
      }
    }
    plain.step = 1 + random.nextInt(5);
    plain.low = random.nextInt(61);
    plain.high = Math.min(60, plain.low + random.nextInt(random.nextInt(6) == 0 ? 21 : 5));
    text.append("step ").append(plain.step).append(";ask ").append(plain.low).append(' ').append(plain.high).append(';');
    if (random.nextBoolean()) {
      plain.home = random.nextInt(plain.high + 12 * plain.step + 1);
      text.append("home ").append(plain.home).append(";");
    }
    return text.toString();
  }

  private String makeLaw() {
    StringBuilder text = new StringBuilder();
    List<Plain.Rule> rules = new ArrayList<>();
    for (int i = random.nextInt(5); i > 0; i--) {
      int a = random.nextInt(plain.people.length);
      int b = random.nextInt(plain.people.length);
      int kind = random.nextInt(a == b ? 2 : 4);
      if (kind == 0) {
        rules.add(new Plain.Rule("apart", 0, 0, random.nextInt(8)));
        text.append("apart ").append(rules.get(rules.size() - 1).number());
      } else if (kind == 1) {
        rules.add(new Plain.Rule("price", 0, 0, plain.low + random.nextInt(plain.high - plain.low + 1)));
        text.append("price ").append(rules.get(rules.size() - 1).number());
      } else if (kind == 2) {
        rules.add(new Plain.Rule("shut", a, b, 0));
        text.append("shut ").append(name(a)).append(' ').append(name(b));
      } else {
        rules.add(new Plain.Rule("open", a, b, 1 + random.nextInt(12)));
        text.append("open ").append(name(a)).append(' ').append(name(b)).append(' ').append(rules.get(rules.size() - 1).number());
      }
      text.append(";");
    }
    plain.laws.add(rules);
    return text.toString();
  }

  private int spot() {
    if (random.nextInt(10) == 0) {
      return random.nextInt(460) - 10;
    }
    if (plain.streets.isEmpty() || random.nextBoolean()) {
      return random.nextInt(plain.people.length);
    }
    int s = random.nextInt(plain.streets.size());
    return 100 + 20 * s + random.nextInt(plain.streets.get(s).steps() + 1);
  }

  private int price() {
    return random.nextInt(12) == 0 ? random.nextInt(70) - 4 : plain.low + random.nextInt(plain.high - plain.low + 1);
  }

  private int below(int n) {
    return random.nextInt(12) == 0 ? random.nextInt(n + 6) - 3 : random.nextInt(Math.max(1, n));
  }

  private void addSeller() {
    int spot = spot();
    int price = price();
    int bread = below(3);
    int chain = below(4);
    int kind = below(3);
    due("seller", x.seller(spot, price, bread, chain, kind), plain.seller(spot, price, bread, chain, kind));
  }

  private void change() {
    switch (random.nextInt(10)) {
      case 0 -> addSeller();
      case 1, 2 -> {
        int j = below(plain.shops.size());
        int spot = spot();
        int price = price();
        due("put", x.put(j, spot, price), plain.put(j, spot, price));
      }
      case 3 -> {
        int law = below(plain.laws.size() + 1) - 1;
        due("force", x.force(law), plain.force(law));
      }
      case 4 -> {
        int j = below(plain.shops.size());
        due("turn", x.turn(j), plain.turn(j));
      }
      case 5 -> due("image", x.image(), plain.image());
      case 6 -> {
        int i = below(4);
        due("back", x.back(i), plain.back(i));
      }
      case 7 -> {
        if (plain.laws.size() < 9) {
          due("law", Check.law(x, makeLaw()), plain.laws.size() - 1);
        }
      }
      default -> { }
    }
  }

  private void ask() {
    askPlain();
    int a = below(plain.shops.size());
    int b = below(plain.shops.size());
    int p = below(plain.people.length);
    int q = below(plain.people.length);
    int what = below(5);
    int one = spot();
    int other = random.nextInt(3) == 0 ? -1 : spot();
    String with = "(" + a + ", " + b + ", " + p + ", " + q + ", " + what + ")";
    switch (random.nextInt(13)) {
      case 0 -> askRests(a, b);
      case 1 -> due("lots" + with, x.lots(a, b, p, q, what), plain.lots(a, b, p, q, what));
      case 2 -> due("lead" + with, x.lead(a, b, what), plain.lead(a, b, what));
      case 3 -> askPrices(a, b);
      case 4 -> {
        if (plain.high - plain.low < 6) {
          due("stage" + with, x.stage(a, b, p, q, what), plain.stage(a, b, p, q, what));
        }
      }
      case 5 -> due("walk", x.walk(one, other), plain.walk(one, other));
      case 6 -> due("own" + with, x.own(a, what), plain.own(a, what));
      case 7 -> due("loss", x.loss(), plain.loss());
      case 8 -> due("bestLaw" + with, x.bestLaw(a, b, what), plain.bestLaw(a, b, what));
      case 9 -> {
        if (plain.isCorner(p) && plain.people[p] < 20) {
          due("shift" + with, x.shift(p, q), plain.shift(p, q));
        }
      }
      case 10 -> {
        int n = random.nextInt(5) == 0 ? random.nextInt(64) - 1 : 1 + random.nextInt(6);
        int kind = random.nextInt(3) == 0 ? what : (random.nextBoolean() ? 10 : 20) + a;
        due("chase(" + n + ", " + kind + ")", x.chase(n, kind), plain.chase(n, kind));
      }
      case 11 -> due("best" + with, x.best(a, what), plain.best(a, what));
      default -> due("rest", x.rest(), plain.rest());
    }
  }

  private void askPlain() {
    int j = below(plain.shops.size());
    int k = below(plain.people.length);
    int what = below(5);
    int one = spot();
    int other = spot();
    due("sold " + j, x.sold(j), plain.sold(j));
    due("earns " + j, x.earns(j), plain.earns(j));
    due("home", x.home(), plain.home());
    due("buys " + k, x.buys(k), plain.buys(k));
    due("of", x.of(j, what), plain.of(j, what));
    due("far " + one + " " + other, x.far(one, other), plain.far(one, other));
    due("count 6", x.count(6), plain.spotCount());
    due("count 7", x.count(7), plain.allParts());
    due("count 3", x.count(3), plain.force);
    due("count 4", x.count(4), plain.images.size());
  }

  private void askRests(int a, int b) {
    int c = random.nextBoolean() ? -1 : below(plain.shops.size());
    int many = plain.rests(a, b, c, -1);
    due("rests", x.rests(a, b, c, -1), many);
    for (int k = -2; k <= many && k < 6; k++) {
      due("rests at " + k, x.rests(a, b, c, k), plain.rests(a, b, c, k));
    }
  }

  private void askPrices(int a, int b) {
    int many = plain.prices(a, b, -1);
    due("prices", x.prices(a, b, -1), many);
    for (int k = Math.max(-2, many - 3); k <= many; k++) {
      due("prices at " + k, x.prices(a, b, k), plain.prices(a, b, k));
    }
  }
}
