import java.util.ArrayDeque;
import java.util.ArrayList;
import java.util.Arrays;
import java.util.List;

/**
 * The document's answers reckoned the slow way, with nothing of the class in it: a town of single steps, people in
 * the smallest parts, every move tried and every shift made.
 */
final class Plain {
  static final int NONE = -1;
  static final long NOTHING = -1000000000000L;

  record Street(int a, int b, int steps, int people) {}

  record Rule(String kind, int a, int b, int number) {}

  record Shop(int spot, int price, int bread, int chain, int kind) {}

  record Image(List<Shop> shops, int law) {}

  int[] people = new int[0];
  int[][] like = new int[0][];
  List<Street> streets = new ArrayList<>();
  int step = 1;
  int home = 9999;
  int low = 10;
  int high = 10;
  List<List<Rule>> laws = new ArrayList<>();
  List<Shop> shops = new ArrayList<>();
  List<Image> images = new ArrayList<>();
  int force = NONE;

  /** The town by one law: a graph whose edges are single steps. */
  final class World {
    final boolean[] shut = new boolean[streets.size()];
    final List<List<Integer>> next = new ArrayList<>();
    final int[][] node = new int[streets.size()][];
    int apart = 0;
    int price = NONE;

    World(int law) {
      for (int k = 0; k < people.length; k++) {
        next.add(new ArrayList<>());
      }
      List<Street> opened = new ArrayList<>();
      for (Rule r : law == NONE ? List.<Rule>of() : laws.get(law)) {
        switch (r.kind) {
          case "apart" -> apart = r.number;
          case "price" -> price = r.number;
          case "open" -> opened.add(new Street(r.a, r.b, r.number, 0));
          default -> {
            for (int s = 0; s < shut.length; s++) {
              shut[s] |= same(streets.get(s), r);
            }
            opened.removeIf(o -> same(o, r));
          }
        }
      }
      for (int s = 0; s < shut.length; s++) {
        if (!shut[s]) {
          node[s] = lay(streets.get(s));
        }
      }
      opened.forEach(this::lay);
    }

    private boolean same(Street s, Rule r) {
      return Math.min(s.a, s.b) == Math.min(r.a, r.b) && Math.max(s.a, s.b) == Math.max(r.a, r.b);
    }

    private int[] lay(Street s) {
      int[] row = new int[s.steps + 1];
      row[0] = s.a;
      row[s.steps] = s.b;
      for (int t = 1; t < s.steps; t++) {
        row[t] = next.size();
        next.add(new ArrayList<>());
      }
      for (int t = 0; t < s.steps; t++) {
        next.get(row[t]).add(row[t + 1]);
        next.get(row[t + 1]).add(row[t]);
      }
      return row;
    }

    int nodeOf(int spot) {
      if (spot < 100) {
        return spot;
      }
      int s = (spot - 100) / 20;
      return shut[s] ? NONE : node[s][(spot - 100) % 20];
    }

    /** Steps from a spot to all nodes; NONE where there's no way. */
    int[] steps(int spot) {
      int[] far = new int[next.size()];
      Arrays.fill(far, NONE);
      int start = nodeOf(spot);
      if (start == NONE) {
        return far;
      }
      ArrayDeque<Integer> open = new ArrayDeque<>();
      far[start] = 0;
      open.add(start);
      while (!open.isEmpty()) {
        int at = open.poll();
        for (int to : next.get(at)) {
          if (far[to] == NONE) {
            far[to] = far[at] + 1;
            open.add(to);
          }
        }
      }
      return far;
    }

    int far(int one, int other) {
      int to = nodeOf(other);
      return to == NONE ? NONE : steps(one)[to];
    }

    boolean apartEnough(int one, int other) {
      int far = far(one, other);
      return far == NONE || far >= apart;
    }

    int asked(Shop s) {
      return price == NONE ? s.price : price;
    }

    /** What is sold: each shop's parts, and at the end those that nobody sold; corner masks are kept in masks. */
    long[] sell(List<Shop> at, int[] crowd, int[] masks) {
      int[][] far = new int[at.size()][];
      for (int j = 0; j < far.length; j++) {
        far[j] = steps(at.get(j).spot);
      }
      long[] sold = new long[far.length + 1];
      long[] costs = new long[far.length];
      for (int k = 0; k < people.length; k++) {
        for (int j = 0; j < far.length; j++) {
          Shop s = at.get(j);
          costs[j] = far[j][k] == NONE ? Long.MAX_VALUE : asked(s) + step * far[j][k] - like[k][s.bread];
        }
        masks[k] = share(costs, home, 24L * step * crowd[k], sold);
      }
      for (int i = 0; i < streets.size(); i++) {
        if (!shut[i]) {
          sellAlong(i, at, far, costs, sold);
        }
      }
      return sold;
    }

    /** Costs here are fourfold, so that they are whole in the middle of a 2 STEP-th of a step. */
    private void sellAlong(int street, List<Shop> at, int[][] far, long[] costs, long[] sold) {
      Street s = streets.get(street);
      for (int t = 0; t < s.steps; t++) {
        for (int i = 0; i < 2 * step; i++) {
          for (int j = 0; j < far.length; j++) {
            int left = far[j][node[street][t]];
            int right = far[j][node[street][t + 1]];
            long steps = Math.min(4L * step * left + 2 * i + 1, 4L * step * right + 4L * step - 2 * i - 1);
            costs[j] = left == NONE ? Long.MAX_VALUE : 4L * asked(at.get(j)) + steps;
          }
          share(costs, 4L * home, 12L * s.people, sold);
        }
      }
    }

    private int share(long[] costs, long most, long parts, long[] sold) {
      long least = most;
      for (long c : costs) {
        least = Math.min(least, c);
      }
      int mask = 0;
      for (int j = 0; j < costs.length; j++) {
        mask |= costs[j] == least ? 1 << j : 0;
      }
      if (mask == 0) {
        sold[costs.length] += parts;
      }
      for (int j = 0; j < costs.length; j++) {
        sold[j] += (mask >> j & 1) == 1 ? parts / Integer.bitCount(mask) : 0;
      }
      return mask;
    }

    long earn(List<Shop> at, int seller) {
      return sell(at, people, new int[people.length])[seller] * asked(at.get(seller));
    }

    long chainEarns(List<Shop> at, int chain, int[] crowd) {
      long[] sold = sell(at, crowd, new int[people.length]);
      long sum = 0;
      for (int j = 0; j < at.size(); j++) {
        sum += at.get(j).chain == chain ? sold[j] * asked(at.get(j)) : 0;
      }
      return sum;
    }

    List<Integer> spots() {
      List<Integer> all = new ArrayList<>();
      for (int k = 0; k < people.length; k++) {
        all.add(k);
      }
      for (int s = 0; s < shut.length; s++) {
        for (int t = 1; t < streets.get(s).steps && !shut[s]; t++) {
          all.add(100 + 20 * s + t);
        }
      }
      return all;
    }

    boolean lets(List<Shop> at, int seller, int spot) {
      for (int j = 0; j < at.size(); j++) {
        if (j != seller && !apartEnough(spot, at.get(j).spot)) {
          return false;
        }
      }
      return true;
    }

    /** Best move, what the chain earns then, 1 if it isn't as it is. */
    long[] best(List<Shop> at, int seller, int[] crowd) {
      Shop s = at.get(seller);
      int now = s.kind == 1 ? asked(s) : s.spot;
      List<Integer> moves = new ArrayList<>();
      if (s.kind == 0) {
        for (int spot : spots()) {
          if (spot == s.spot || lets(at, seller, spot)) {
            moves.add(spot);
          }
        }
      } else if (s.kind == 1 && price == NONE) {
        for (int p = low; p <= high; p++) {
          moves.add(p);
        }
      }
      long most = chainEarns(at, s.chain, crowd);
      long first = most;
      int move = NONE;
      for (int m : moves) {
        long e = chainEarns(moved(at, seller, m), s.chain, crowd);
        if (e > most) {
          most = e;
          move = m;
        }
      }
      return new long[] {most > first ? move : now, most, most > first ? 1 : 0};
    }

    List<Shop> moved(List<Shop> at, int seller, int move) {
      Shop s = at.get(seller);
      List<Shop> then = new ArrayList<>(at);
      then.set(seller, new Shop(s.kind == 1 ? s.spot : move, s.kind == 1 ? move : s.price, s.bread, s.chain, s.kind));
      return then;
    }

    int rest(List<Shop> at, int[] crowd) {
      for (int j = 0; j < at.size(); j++) {
        if (best(at, j, crowd)[2] == 1) {
          return j;
        }
      }
      return NONE;
    }

    /** What all walk, times 8, by half steps whose middle tells the mean. */
    long walk(int... spots) {
      int[] near = new int[next.size()];
      Arrays.fill(near, NONE);
      for (int spot : spots) {
        int[] far = steps(spot);
        for (int i = 0; i < far.length; i++) {
          near[i] = far[i] == NONE ? near[i] : near[i] == NONE ? far[i] : Math.min(near[i], far[i]);
        }
      }
      long sum = 0;
      for (int k = 0; k < people.length; k++) {
        if (people[k] > 0 && near[k] == NONE) {
          return NONE;
        }
        sum += 8L * people[k] * near[k];
      }
      for (int s = 0; s < shut.length; s++) {
        Street street = streets.get(s);
        for (int t = 0; t < street.steps && !shut[s] && street.people > 0; t++) {
          int left = near[node[s][t]];
          int right = near[node[s][t + 1]];
          if (left == NONE || right == NONE) {
            return NONE;
          }
          sum += street.people * (long) Math.min(4 * left + 1, 4 * right + 3);
          sum += street.people * (long) Math.min(4 * left + 3, 4 * right + 1);
        }
      }
      return sum;
    }

    /** Rows of players' corners; null: the row isn't let. */
    long[] row(int[] players, int[] corners) {
      List<Shop> at = shops;
      for (int p = 0; p < players.length; p++) {
        at = stood(at, players[p], corners[p]);
      }
      long[] worth = new long[players.length];
      for (int p = 0; p < players.length; p++) {
        if (!lets(at, players[p], corners[p])) {
          return null;
        }
        worth[p] = earn(at, players[p]);
      }
      return worth;
    }

    List<Shop> stood(List<Shop> at, int seller, int spot) {
      Shop s = at.get(seller);
      List<Shop> then = new ArrayList<>(at);
      then.set(seller, new Shop(spot, s.price, s.bread, s.chain, s.kind));
      return then;
    }

    /** All corners of players at rest, in order. */
    List<int[]> rests(int... players) {
      int n = people.length;
      int rows = players.length == 2 ? n * n : n * n * n;
      long[][] worth = new long[rows][];
      for (int r = 0; r < rows; r++) {
        worth[r] = row(players, corners(r, players.length));
      }
      List<int[]> found = new ArrayList<>();
      for (int r = 0; r < rows; r++) {
        boolean still = worth[r] != null;
        for (int p = 0; still && p < players.length; p++) {
          for (int c = 0; c < n; c++) {
            int[] other = corners(r, players.length);
            other[p] = c;
            long[] then = worth[number(other)];
            still &= then == null || then[p] <= worth[r][p];
          }
        }
        if (still) {
          found.add(corners(r, players.length));
        }
      }
      return found;
    }

    private int[] corners(int row, int players) {
      int n = people.length;
      return players == 2 ? new int[] {row / n, row % n} : new int[] {row / n / n, row / n % n, row % n};
    }

    private int number(int[] corners) {
      int r = 0;
      for (int c : corners) {
        r = r * people.length + c;
      }
      return r;
    }
  }

  World world() {
    return new World(force);
  }

  boolean isSpot(int spot) {
    if (spot >= 0 && spot < people.length) {
      return true;
    }
    int s = Math.floorDiv(spot - 100, 20);
    int t = Math.floorMod(spot - 100, 20);
    return s >= 0 && s < streets.size() && t > 0 && t < streets.get(s).steps;
  }

  boolean isSeller(int j) {
    return j >= 0 && j < shops.size();
  }

  boolean isCorner(int k) {
    return k >= 0 && k < people.length;
  }

  private boolean isPair(int x, int y) {
    return isSeller(x) && isSeller(y) && x != y;
  }

  int seller(int spot, int price, int bread, int chain, int kind) {
    if (!isSpot(spot) || price < low || price > high || bread < 0 || bread > 2 || chain < 0 || chain > 3 || kind < 0
        || kind > 2 || shops.size() == 4) {
      return NONE;
    }
    shops.add(new Shop(spot, price, bread, chain, kind));
    return shops.size() - 1;
  }

  boolean put(int j, int spot, int price) {
    if (!isSeller(j) || !isSpot(spot) || price < low || price > high) {
      return false;
    }
    Shop s = shops.get(j);
    shops.set(j, new Shop(spot, price, s.bread, s.chain, s.kind));
    return true;
  }

  boolean force(int law) {
    if (law < NONE || law >= laws.size()) {
      return false;
    }
    force = law;
    return true;
  }

  int far(int one, int other) {
    return isSpot(one) && isSpot(other) ? world().far(one, other) : NONE;
  }

  long sold(int j) {
    return isSeller(j) ? world().sell(shops, people, new int[people.length])[j] : NONE;
  }

  long earns(int chain) {
    return chain < 0 || chain > 3 ? NONE : world().chainEarns(shops, chain, people);
  }

  long home() {
    return world().sell(shops, people, new int[people.length])[shops.size()];
  }

  int buys(int k) {
    int[] masks = new int[people.length];
    world().sell(shops, people, masks);
    return isCorner(k) ? masks[k] : NONE;
  }

  long best(int j, int what) {
    return isSeller(j) && what >= 0 && what <= 2 ? world().best(shops, j, people)[what] : NONE;
  }

  int rest() {
    return shops.isEmpty() ? -2 : world().rest(shops, people);
  }

  boolean turn(int j) {
    if (!isSeller(j) || best(j, 2) == 0) {
      return false;
    }
    shops = world().moved(shops, j, (int) best(j, 0));
    return true;
  }

  int chase(int n, int what) {
    boolean fits = what >= 0 && what <= 2 || what >= 10 && what < 10 + shops.size() || what >= 20 && what < 20 + shops.size();
    if (shops.isEmpty() || n < 1 || n > 60 || !fits) {
      return NONE;
    }
    World w = world();
    List<List<Shop>> seen = new ArrayList<>();
    List<Shop> at = new ArrayList<>(shops);
    seen.add(at);
    int how = 2;
    int ring = 0;
    for (int round = 1; round <= n && how == 2; round++) {
      for (int j = 0; j < at.size(); j++) {
        long[] best = w.best(at, j, people);
        at = best[2] == 1 ? w.moved(at, j, (int) best[0]) : at;
      }
      if (at.equals(seen.get(round - 1))) {
        how = 0;
      } else if (seen.contains(at)) {
        how = 1;
        ring = round - seen.indexOf(at);
      }
      seen.add(at);
    }
    if (what >= 20) {
      return w.asked(at.get(what - 20));
    }
    return what >= 10 ? at.get(what - 10).spot : what == 0 ? how : what == 1 ? seen.size() - 1 : ring;
  }

  int rests(int x, int y, int z, int k) {
    if (!isPair(x, y) || z != NONE && (!isPair(x, z) || !isPair(y, z))) {
      return NONE;
    }
    List<int[]> all = z == NONE ? world().rests(x, y) : world().rests(x, y, z);
    if (k == NONE) {
      return all.size();
    }
    if (k < 0 || k >= all.size()) {
      return NONE;
    }
    int[] row = all.get(k);
    return 256 * row[0] + 16 * row[1] + (z == NONE ? 0 : row[2]);
  }

  long lots(int x, int y, int a, int b, int what) {
    if (!isPair(x, y) || !isCorner(a) || !isCorner(b) || a == b || what < 0 || what > 3) {
      return NONE;
    }
    World w = world();
    int[] players = {x, y};
    long[] aa = w.row(players, new int[] {a, a});
    long[] ab = w.row(players, new int[] {a, b});
    long[] ba = w.row(players, new int[] {b, a});
    long[] bb = w.row(players, new int[] {b, b});
    if (aa == null || ab == null || ba == null || bb == null) {
      return NONE;
    }
    boolean still = aa[0] >= ba[0] && aa[1] >= ab[1] || ab[0] >= bb[0] && ab[1] >= aa[1]
        || ba[0] >= aa[0] && ba[1] >= bb[1] || bb[0] >= ab[0] && bb[1] >= ba[1];
    if (still) {
      return NONE;
    }
    int who = what < 2 ? 1 : 0;
    long p = what < 2 ? bb[1] - ba[1] : bb[0] - ab[0];
    long q = aa[who] - ab[who] - ba[who] + bb[who];
    long g = java.math.BigInteger.valueOf(p).gcd(java.math.BigInteger.valueOf(q)).longValue() * (q < 0 ? -1 : 1);
    return what % 2 == 0 ? p / g : q / g;
  }

  /** Leader's corner, follower's, leader's worth, follower's; null: none. */
  private long[] led(int leader, int follower) {
    World w = world();
    long[] best = null;
    for (int c = 0; c < people.length; c++) {
      long[] answer = null;
      for (int d = 0; d < people.length; d++) {
        long[] worth = w.row(new int[] {leader, follower}, new int[] {c, d});
        if (worth != null && (answer == null || worth[1] > answer[3])) {
          answer = new long[] {c, d, worth[0], worth[1]};
        }
      }
      if (answer != null && (best == null || answer[2] > best[2])) {
        best = answer;
      }
    }
    return best;
  }

  long lead(int x, int y, int what) {
    if (!isPair(x, y) || what < 0 || what > 4) {
      return NOTHING;
    }
    long[] row = led(x, y);
    if (row == null) {
      return NOTHING;
    }
    return what < 4 ? row[what] : row[2] - led(y, x)[3];
  }

  private List<long[]> pricesAt(World w, List<Shop> at, int x, int y) {
    int from = w.price == NONE ? low : w.price;
    int n = w.price == NONE ? high - low + 1 : 1;
    long[][][] worth = new long[n][n][];
    for (int i = 0; i < n; i++) {
      for (int k = 0; k < n; k++) {
        List<Shop> then = priced(priced(at, x, from + i), y, from + k);
        worth[i][k] = new long[] {w.earn(then, x), w.earn(then, y)};
      }
    }
    List<long[]> found = new ArrayList<>();
    for (int i = 0; i < n; i++) {
      for (int k = 0; k < n; k++) {
        boolean still = true;
        for (int o = 0; o < n; o++) {
          still &= worth[o][k][0] <= worth[i][k][0] && worth[i][o][1] <= worth[i][k][1];
        }
        if (still) {
          found.add(new long[] {from + i, from + k, worth[i][k][0], worth[i][k][1]});
        }
      }
    }
    return found;
  }

  private static List<Shop> priced(List<Shop> at, int j, int price) {
    Shop s = at.get(j);
    List<Shop> then = new ArrayList<>(at);
    then.set(j, new Shop(s.spot, price, s.bread, s.chain, s.kind));
    return then;
  }

  int prices(int x, int y, int k) {
    if (!isPair(x, y)) {
      return NONE;
    }
    List<long[]> all = pricesAt(world(), shops, x, y);
    if (k == NONE) {
      return all.size();
    }
    return k < 0 || k >= all.size() ? NONE : (int) (100 * all.get(k)[0] + all.get(k)[1]);
  }

  int stage(int x, int y, int a, int b, int what) {
    if (!isPair(x, y) || !isCorner(a) || !isCorner(b) || a == b || what < 0 || what > 2) {
      return NONE;
    }
    World w = world();
    long[][] worth = new long[4][];
    for (int r = 0; r < 4; r++) {
      int cx = r < 2 ? a : b;
      int cy = r == 0 || r == 2 ? a : b;
      List<Shop> at = w.stood(w.stood(shops, x, cx), y, cy);
      List<long[]> found = w.lets(at, x, cx) && w.lets(at, y, cy) ? pricesAt(w, at, x, y) : List.of();
      worth[r] = found.isEmpty() ? null : found.get(0);
    }
    int[] byX = {2, 3, 0, 1};
    int[] byY = {1, 0, 3, 2};
    for (int r = 0; r < 4; r++) {
      if (worth[r] != null && (worth[byX[r]] == null || worth[byX[r]][2] <= worth[r][2])
          && (worth[byY[r]] == null || worth[byY[r]][3] <= worth[r][3])) {
        return what == 0 ? r : (int) worth[r][what - 1];
      }
    }
    return NONE;
  }

  long walk(int one, int other) {
    if (!isSpot(one) || other != NONE && !isSpot(other)) {
      return NONE;
    }
    return other == NONE ? world().walk(one) : world().walk(one, other);
  }

  long own(int n, int what) {
    if (n < 1 || n > 2 || what < 0 || what > n) {
      return NONE;
    }
    World w = world();
    long[] best = {NONE, NONE, NONE};
    for (int i = 0; i < people.length; i++) {
      for (int k = n == 1 ? i : i + 1; k < (n == 1 ? i + 1 : people.length); k++) {
        long walk = w.walk(i, k);
        if (walk != NONE && (best[0] == NONE || walk < best[0])) {
          best = new long[] {walk, i, k};
        }
      }
    }
    return best[what];
  }

  long loss() {
    if (shops.isEmpty()) {
      return NOTHING;
    }
    long walked = world().walk(shops.stream().mapToInt(Shop::spot).toArray());
    long own = own(shops.size() == 1 ? 1 : 2, 0);
    return walked == NONE || own == NONE ? NOTHING : walked - own;
  }

  long bestLaw(int x, int y, int what) {
    if (!isPair(x, y) || what < 0 || what > 2) {
      return NONE;
    }
    long[] best = {NONE, NONE, NONE};
    for (int law = NONE; law < laws.size(); law++) {
      World w = new World(law);
      List<int[]> rests = w.rests(x, y);
      for (int[] row : rests) {
        long walk = w.walk(row);
        if (walk != NONE && (best[1] == NONE || walk < best[1])) {
          best = new long[] {law == NONE ? 9 : law, walk, rests.size()};
        }
      }
    }
    return best[what];
  }

  int shift(int a, int b) {
    if (!isCorner(a) || !isCorner(b) || rest() != NONE) {
      return NONE;
    }
    World w = world();
    for (int k = 1; k <= people[a]; k++) {
      int[] crowd = people.clone();
      crowd[a] -= k;
      crowd[b] += k;
      if (w.rest(shops, crowd) != NONE) {
        return k;
      }
    }
    return NONE;
  }

  int image() {
    if (images.size() == 4 || shops.isEmpty()) {
      return NONE;
    }
    images.add(new Image(new ArrayList<>(shops), force));
    return images.size() - 1;
  }

  boolean back(int i) {
    if (i < 0 || i >= images.size()) {
      return false;
    }
    shops = new ArrayList<>(images.get(i).shops);
    force = images.get(i).law;
    return true;
  }

  int of(int j, int what) {
    if (!isSeller(j) || what < 0 || what > 4) {
      return NONE;
    }
    Shop s = shops.get(j);
    return new int[] {s.spot, world().asked(s), s.bread, s.chain, s.kind}[what];
  }

  int spotCount() {
    return world().spots().size();
  }

  long allParts() {
    World w = world();
    long sum = Arrays.stream(people).sum();
    for (int s = 0; s < streets.size(); s++) {
      sum += w.shut[s] ? 0 : streets.get(s).steps * streets.get(s).people;
    }
    return 24 * step * sum;
  }
}
