import java.util.Arrays;

/** A town of bakers who open where they like and ask what they like: the promises are those of the project's document. */
public final class TwoBakers {
  public static final int NONE = -1;

  private static final long NOTHING = -1000000000000L;
  private static final int TAPE = 900;
  private static final int CORNERS = 12;
  private static final int STREETS = 16;
  private static final int SELLERS = 4;
  private static final int CHAINS = 4;
  private static final int BREADS = 3;
  private static final int KINDS = 3;
  private static final int LAWS = 9;
  private static final int IMAGES = 4;
  private static final int NO_LAW = 9;
  private static final int MOVES_PLACE = 0;
  private static final int MOVES_PRICE = 1;
  private static final int LETTERS = 6;
  private static final int STREET_SPOTS = 100;
  private static final int SPOTS_A_STREET = 20;
  private static final int PARTS = 24;
  private static final int ROUNDS = 60;
  /** Steps of a way that there isn't: beyond every way, every APART and every HOME. */
  private static final int FAR_OFF = 100000;

  private final Reader reader = new Reader();
  private final Town town = new Town();
  private final Town draft = new Town();
  private final LawBook book = new LawBook();
  private final Roads roads = new Roads(town);
  private final Bakers bakers = new Bakers();
  private final Bakers[] images = new Bakers[IMAGES];
  private final Market market = new Market(town, roads);
  private final Walks walks = new Walks(town, roads);
  private final Moves moves = new Moves(town, bakers, market);
  private final Grid grid = new Grid(town, bakers, market, walks);
  private final Pricing pricing = new Pricing(town, bakers, market);
  private int imageCount = 0;
  private int faultAt = NONE;
  private int taken = 0;
  /** Another number after every change, so that what was reckoned before it is known as old. */
  private int stamp = 0;

  public TwoBakers() {
    for (int i = 0; i < IMAGES; i++) {
      images[i] = new Bakers();
    }
    roads.lay(book, NONE);
  }

  public int feed(int a, int b, int c, int d, int e) {
    if (reader.filled + 20 > TAPE) {
      return NONE;
    }
    reader.append(a);
    reader.append(b);
    reader.append(c);
    reader.append(d);
    reader.append(e);
    return reader.filled;
  }

  public int town(int n) {
    if (n < 0 || n > reader.filled) {
      return -2;
    }
    boolean fine = reader.readTown(n, draft);
    faultAt = fine ? NONE : reader.from;
    reader.filled = 0;
    if (!fine) {
      return NONE;
    }
    town.copyFrom(draft);
    bakers.clear();
    book.count = 0;
    imageCount = 0;
    taken++;
    changeRoads();
    return town.corners;
  }

  public int law(int n) {
    if (n < 0 || n > reader.filled) {
      return -2;
    }
    if (book.count >= LAWS) {
      return -3;
    }
    boolean fine = reader.readLaw(n, town, book);
    faultAt = fine ? NONE : reader.from;
    reader.filled = 0;
    if (!fine) {
      return NONE;
    }
    stamp++;
    book.count++;
    return book.count - 1;
  }

  public int fault() {
    return faultAt;
  }

  public int told(int what) {
    if (what >= 100 && what < 100 + town.corners) {
      return town.people[what - 100];
    }
    if (what >= 200 && what < 200 + BREADS * town.corners) {
      return town.likes[what - 200];
    }
    if (what >= 300 && what < 300 + 4 * town.streets) {
      return town.streetTold((what - 300) / 4, (what - 300) % 4);
    }
    return town.plainTold(what);
  }

  public int name(int corner, int i) {
    if (!town.isCorner(corner)) {
      return NONE;
    }
    if (i == NONE) {
      return town.lengths[corner];
    }
    return i >= 0 && i < town.lengths[corner] ? town.letters[LETTERS * corner + i] : NONE;
  }

  public int far(int one, int other) {
    if (!town.isSpot(one) || !town.isSpot(other)) {
      return NONE;
    }
    int steps = roads.between(one, other);
    return steps < FAR_OFF ? steps : NONE;
  }

  public boolean force(int law) {
    if (law < NONE || law >= book.count) {
      return false;
    }
    bakers.law = law;
    changeRoads();
    return true;
  }

  public int seller(int spot, int price, int bread, int chain, int kind) {
    boolean fine = canStand(spot, price) && bread >= 0 && bread < BREADS && chain >= 0 && chain < CHAINS
        && kind >= 0 && kind < KINDS;
    if (!fine || bakers.count >= SELLERS) {
      return NONE;
    }
    int number = bakers.count;
    bakers.spot[number] = spot;
    bakers.price[number] = price;
    bakers.bread[number] = bread;
    bakers.chain[number] = chain;
    bakers.kind[number] = kind;
    bakers.count++;
    stamp++;
    return number;
  }

  public boolean put(int seller, int spot, int price) {
    if (!bakers.has(seller) || !canStand(spot, price)) {
      return false;
    }
    bakers.spot[seller] = spot;
    bakers.price[seller] = price;
    stamp++;
    return true;
  }

  public int of(int seller, int what) {
    if (!bakers.has(seller)) {
      return NONE;
    }
    switch (what) {
      case 0:
        return bakers.spot[seller];
      case 1:
        return roads.price != NONE ? roads.price : bakers.price[seller];
      case 2:
        return bakers.bread[seller];
      case 3:
        return bakers.chain[seller];
      case 4:
        return bakers.kind[seller];
      default:
        return NONE;
    }
  }

  public long sold(int seller) {
    if (!bakers.has(seller)) {
      return NONE;
    }
    sellToAll();
    return market.sales[seller];
  }

  public long earns(int chain) {
    if (chain < 0 || chain >= CHAINS) {
      return NONE;
    }
    sellToAll();
    return market.takings(chain);
  }

  public long home() {
    sellToAll();
    return market.tally[0];
  }

  public int buys(int corner) {
    if (!town.isCorner(corner)) {
      return NONE;
    }
    sellToAll();
    return market.cornerMask[corner];
  }

  public long best(int seller, int what) {
    if (!bakers.has(seller) || what < 0 || what > 2) {
      return NONE;
    }
    market.load(bakers);
    moves.findBest(seller);
    if (what == 0) {
      return moves.bestMove;
    }
    return what == 1 ? moves.bestTakings : (moves.rather ? 1 : 0);
  }

  public int rest() {
    if (bakers.count == 0) {
      return -2;
    }
    market.load(bakers);
    return moves.firstRestless();
  }

  public boolean turn(int seller) {
    if (!bakers.has(seller)) {
      return false;
    }
    market.load(bakers);
    moves.findBest(seller);
    if (!moves.rather) {
      return false;
    }
    if (bakers.kind[seller] == MOVES_PRICE) {
      bakers.price[seller] = moves.bestMove;
    } else {
      bakers.spot[seller] = moves.bestMove;
    }
    stamp++;
    return true;
  }

  public int chase(int n, int what) {
    if (bakers.count == 0 || n < 1 || n > ROUNDS) {
      return NONE;
    }
    boolean ofSpot = what >= 10 && what < 10 + bakers.count;
    boolean ofPrice = what >= 20 && what < 20 + bakers.count;
    if (!ofSpot && !ofPrice && (what < 0 || what > 2)) {
      return NONE;
    }
    moves.runChase(stamp, n);
    if (ofSpot) {
      return moves.endSpot[what - 10];
    }
    return ofPrice ? moves.endPrice[what - 20] : moves.ending[what];
  }

  public int rests(int x, int y, int z, int k) {
    if (!isPair(x, y) || k < NONE) {
      return NONE;
    }
    if (z != NONE && (!isPair(x, z) || !isPair(y, z))) {
      return NONE;
    }
    grid.prepare(stamp, x, y, z);
    if (k == NONE) {
      return grid.found;
    }
    return k < grid.found ? grid.cornersOf(grid.restRows[k]) : NONE;
  }

  public long lots(int x, int y, int a, int b, int what) {
    if (!isPair(x, y) || !areTwoCorners(a, b) || what < 0 || what > 3) {
      return NONE;
    }
    return grid.drawLots(x, y, a, b, what);
  }

  public long lead(int x, int y, int what) {
    if (!isPair(x, y) || what < 0 || what > 4) {
      return NOTHING;
    }
    grid.prepare(stamp, x, y, NONE);
    int row = grid.ledRow(0);
    int answered = grid.ledRow(1);
    if (row == NONE || answered == NONE) {
      return NOTHING;
    }
    switch (what) {
      case 0:
        return grid.cornerIn(row, 0);
      case 1:
        return grid.cornerIn(row, 1);
      case 2:
        return grid.worthOf(0, row);
      case 3:
        return grid.worthOf(1, row);
      default:
        return grid.worthOf(0, row) - grid.worthOf(0, answered);
    }
  }

  public int prices(int x, int y, int k) {
    if (!isPair(x, y) || k < NONE) {
      return NONE;
    }
    pricing.prepare(stamp, x, y);
    if (k == NONE) {
      return pricing.found;
    }
    return k < pricing.found ? pricing.pairAt(k) : NONE;
  }

  public int stage(int x, int y, int a, int b, int what) {
    if (!isPair(x, y) || !areTwoCorners(a, b) || what < 0 || what > 2) {
      return NONE;
    }
    int row = pricing.firstStage(x, y, a, b);
    if (row == NONE || what == 0) {
      return row;
    }
    return what == 1 ? pricing.stagePrices[row] / 100 : pricing.stagePrices[row] % 100;
  }

  public long walk(int one, int other) {
    if (!town.isSpot(one) || (other != NONE && !town.isSpot(other))) {
      return NONE;
    }
    return walks.toSpots(one, other);
  }

  public long own(int n, int what) {
    if (n < 1 || n > 2 || what < 0 || what > n) {
      return NONE;
    }
    walks.findOwn(n);
    if (what == 0) {
      return walks.ownSteps;
    }
    return what == 1 ? walks.ownFirst : walks.ownSecond;
  }

  public long loss() {
    if (bakers.count == 0) {
      return NOTHING;
    }
    long walked = walks.toBakers(bakers);
    walks.findOwn(bakers.count == 1 ? 1 : 2);
    return walked == NONE || walks.ownSteps == NONE ? NOTHING : walked - walks.ownSteps;
  }

  public long bestLaw(int x, int y, int what) {
    if (!isPair(x, y) || what < 0 || what > 2) {
      return NONE;
    }
    grid.choose(stamp, book, x, y);
    return grid.choice[what];
  }

  public int shift(int a, int b) {
    if (!town.isCorner(a) || !town.isCorner(b) || bakers.count == 0) {
      return NONE;
    }
    market.load(bakers);
    return moves.leastShift(a, b);
  }

  public int image() {
    if (imageCount >= IMAGES || bakers.count == 0) {
      return NONE;
    }
    images[imageCount].copyFrom(bakers);
    imageCount++;
    return imageCount - 1;
  }

  public boolean back(int image) {
    if (image < 0 || image >= imageCount) {
      return false;
    }
    bakers.copyFrom(images[image]);
    changeRoads();
    return true;
  }

  public int count(int what) {
    switch (what) {
      case 0:
        return taken;
      case 1:
        return bakers.count;
      case 2:
        return book.count;
      case 3:
        return bakers.law;
      case 4:
        return imageCount;
      case 5:
        return reader.filled;
      case 6:
        return roads.openSpots();
      case 7:
        return PARTS * town.step * roads.openPeople();
      default:
        return NONE;
    }
  }

  private void changeRoads() {
    roads.lay(book, bakers.law);
    stamp++;
  }

  private void sellToAll() {
    market.load(bakers);
    market.goRound();
  }

  private boolean canStand(int spot, int price) {
    return town.isSpot(spot) && price >= town.askLow && price <= town.askHigh;
  }

  private boolean isPair(int x, int y) {
    return bakers.has(x) && bakers.has(y) && x != y;
  }

  private boolean areTwoCorners(int a, int b) {
    return town.isCorner(a) && town.isCorner(b) && a != b;
  }

  /** Rows 0 to 3 are aa, ab, ba, bb; a row that isn't let is worth less than nothing to both. */
  private static boolean standsStill(long[] forX, long[] forY, int row) {
    return forX[row] >= 0 && forX[row ^ 2] <= forX[row] && forY[row ^ 1] <= forY[row];
  }

  /** The tape, and the grammar of both kinds of text; where reading stops short, from is the FAULT's place. */
  private static final class Reader {
    private static final int END = 0;
    private static final int WORD = 1;
    private static final int DIGITS = 2;
    private static final int SIGN = 3;
    private static final int WRONG = 4;
    private static final int STATEMENTS = 40;
    private static final int RULES = 12;
    private static final int OPENED = 8;

    final int[] tape = new int[TAPE];
    int filled = 0;
    int length = 0;
    int behind = 0;
    int kind = END;
    int from = 0;
    int value = 0;

    void append(int four) {
      for (int shift = 24; shift >= 0 && filled < TAPE; shift -= 8) {
        tape[filled] = (four >>> shift) & 255;
        filled++;
      }
    }

    boolean readTown(int n, Town into) {
      begin(n);
      into.clear();
      for (int i = 0; i <= STATEMENTS; i++) {
        if (kind == END) {
          return into.corners > 0;
        }
        if (i == STATEMENTS || !takeStatement(into)) {
          return false;
        }
        into.statements++;
      }
      return false;
    }

    boolean readLaw(int n, Town of, LawBook book) {
      begin(n);
      book.clearNext();
      int opened = 0;
      for (int i = 0; i <= RULES; i++) {
        if (kind == END) {
          return true;
        }
        if (i == RULES) {
          return false;
        }
        boolean opens = isWord("open");
        if (!takeRule(of, book, opened < OPENED)) {
          return false;
        }
        opened += opens ? 1 : 0;
      }
      return false;
    }

    private void begin(int n) {
      length = Math.min(n, filled);
      behind = 0;
      advance();
    }

    private void advance() {
      while (behind < length && (tape[behind] == 32 || tape[behind] == 10)) {
        behind++;
      }
      from = behind;
      if (behind >= length) {
        kind = END;
        return;
      }
      int first = tape[behind];
      behind++;
      if (isLetter(first)) {
        kind = WORD;
        while (behind < length && isLetter(tape[behind])) {
          behind++;
        }
      } else if (isDigit(first)) {
        kind = DIGITS;
        while (behind < length && isDigit(tape[behind])) {
          behind++;
        }
      } else {
        kind = first == ';' ? SIGN : WRONG;
      }
    }

    private static boolean isLetter(int sign) {
      return sign >= 'a' && sign <= 'z';
    }

    private static boolean isDigit(int sign) {
      return sign >= '0' && sign <= '9';
    }

    private boolean isWord(String word) {
      if (kind != WORD || behind - from != word.length()) {
        return false;
      }
      for (int i = 0; i < word.length(); i++) {
        if (tape[from + i] != word.charAt(i)) {
          return false;
        }
      }
      return true;
    }

    private boolean takeWord(String word) {
      if (!isWord(word)) {
        return false;
      }
      advance();
      return true;
    }

    private boolean takeEnd() {
      if (kind != SIGN) {
        return false;
      }
      advance();
      return true;
    }

    private boolean takeNumber(int low, int high) {
      if (kind != DIGITS || behind - from > 4) {
        return false;
      }
      value = 0;
      for (int i = from; i < behind; i++) {
        value = 10 * value + tape[i] - '0';
      }
      if (value < low || value > high) {
        return false;
      }
      advance();
      return true;
    }

    private boolean isReserved() {
      return isWord("corner") || isWord("people") || isWord("like") || isWord("street") || isWord("step")
          || isWord("home") || isWord("ask") || isWord("white") || isWord("brown") || isWord("rye")
          || isWord("apart") || isWord("shut") || isWord("open") || isWord("price");
    }

    private int cornerNamed(Town of) {
      for (int k = 0; k < of.corners; k++) {
        if (kind == WORD && isName(of, k)) {
          return k;
        }
      }
      return NONE;
    }

    private boolean isName(Town of, int corner) {
      if (behind - from != of.lengths[corner]) {
        return false;
      }
      for (int i = 0; i < of.lengths[corner]; i++) {
        if (tape[from + i] != of.letters[LETTERS * corner + i]) {
          return false;
        }
      }
      return true;
    }

    private boolean takeStatement(Town into) {
      boolean fine = false;
      if (takeWord("corner")) {
        fine = takeCorner(into);
      } else if (takeWord("street")) {
        fine = takeStreet(into);
      } else if (takeWord("step")) {
        fine = takeNumber(1, 5);
        into.step = value;
      } else if (takeWord("home")) {
        fine = takeNumber(0, 9999);
        into.home = value;
      } else if (takeWord("ask")) {
        fine = takeAsk(into);
      }
      return fine && takeEnd();
    }

    private boolean takeAsk(Town into) {
      if (!takeNumber(0, 60)) {
        return false;
      }
      into.askLow = value;
      boolean fine = takeNumber(into.askLow, Math.min(60, into.askLow + 20));
      into.askHigh = value;
      return fine;
    }

    private boolean takeCorner(Town into) {
      int corner = into.corners;
      if (!takeNewName(into)) {
        return false;
      }
      if (takeWord("people")) {
        if (!takeNumber(0, 99)) {
          return false;
        }
        into.people[corner] = value;
      }
      for (int i = 0; i < TAPE && takeWord("like"); i++) {
        int bread = breadNamed();
        if (bread == NONE) {
          return false;
        }
        advance();
        if (!takeNumber(0, 20)) {
          return false;
        }
        into.likes[BREADS * corner + bread] = value;
      }
      return true;
    }

    private boolean takeNewName(Town into) {
      int size = behind - from;
      if (kind != WORD || size > LETTERS || into.corners >= CORNERS || isReserved() || cornerNamed(into) != NONE) {
        return false;
      }
      System.arraycopy(tape, from, into.letters, LETTERS * into.corners, size);
      into.lengths[into.corners] = size;
      into.corners++;
      advance();
      return true;
    }

    private int breadNamed() {
      if (isWord("white")) {
        return 0;
      }
      if (isWord("brown")) {
        return 1;
      }
      return isWord("rye") ? 2 : NONE;
    }

    private boolean takeStreet(Town into) {
      int street = into.streets;
      int one = cornerNamed(into);
      if (street >= STREETS || one == NONE) {
        return false;
      }
      advance();
      int other = cornerNamed(into);
      if (other == NONE || other == one || into.hasStreet(one, other)) {
        return false;
      }
      advance();
      if (!takeNumber(1, 12)) {
        return false;
      }
      into.first[street] = one;
      into.second[street] = other;
      into.steps[street] = value;
      into.streets++;
      if (takeWord("people")) {
        boolean fine = takeNumber(0, 20);
        into.crowd[street] = value;
        return fine;
      }
      return true;
    }

    private boolean takeRule(Town of, LawBook book, boolean mayOpen) {
      boolean fine = false;
      if (takeWord("apart")) {
        fine = takeNumber(0, 99);
        book.apart[book.count] = value;
      } else if (takeWord("price")) {
        fine = takeNumber(of.askLow, of.askHigh);
        book.price[book.count] = value;
      } else if (takeWord("shut")) {
        fine = takeBetween(of, book, false, true);
      } else if (takeWord("open")) {
        fine = takeBetween(of, book, true, mayOpen);
      }
      return fine && takeEnd();
    }

    private boolean takeBetween(Town of, LawBook book, boolean opens, boolean mayOpen) {
      int one = cornerNamed(of);
      if (one == NONE) {
        return false;
      }
      advance();
      int other = cornerNamed(of);
      if (other == NONE || other == one) {
        return false;
      }
      advance();
      if (opens && (!mayOpen || !takeNumber(1, 12))) {
        return false;
      }
      book.addChange(one, other, opens ? value : 0);
      return true;
    }
  }

  /** The TOWN as told. */
  private static final class Town {
    final int[] letters = new int[LETTERS * CORNERS];
    final int[] lengths = new int[CORNERS];
    final int[] people = new int[CORNERS];
    final int[] likes = new int[BREADS * CORNERS];
    final int[] first = new int[STREETS];
    final int[] second = new int[STREETS];
    final int[] steps = new int[STREETS];
    final int[] crowd = new int[STREETS];
    int corners = 0;
    int streets = 0;
    int step = 1;
    int home = 9999;
    int askLow = 10;
    int askHigh = 10;
    int statements = 0;

    void clear() {
      Arrays.fill(people, 0);
      Arrays.fill(likes, 0);
      Arrays.fill(crowd, 0);
      corners = 0;
      streets = 0;
      step = 1;
      home = 9999;
      askLow = 10;
      askHigh = 10;
      statements = 0;
    }

    void copyFrom(Town other) {
      System.arraycopy(other.letters, 0, letters, 0, letters.length);
      System.arraycopy(other.lengths, 0, lengths, 0, CORNERS);
      System.arraycopy(other.people, 0, people, 0, CORNERS);
      System.arraycopy(other.likes, 0, likes, 0, likes.length);
      System.arraycopy(other.first, 0, first, 0, STREETS);
      System.arraycopy(other.second, 0, second, 0, STREETS);
      System.arraycopy(other.steps, 0, steps, 0, STREETS);
      System.arraycopy(other.crowd, 0, crowd, 0, STREETS);
      corners = other.corners;
      streets = other.streets;
      step = other.step;
      home = other.home;
      askLow = other.askLow;
      askHigh = other.askHigh;
      statements = other.statements;
    }

    int plainTold(int what) {
      switch (what) {
        case 0:
          return corners;
        case 1:
          return streets;
        case 2:
          return step;
        case 3:
          return home;
        case 4:
          return askLow;
        case 5:
          return askHigh;
        case 6:
          return statements;
        default:
          return NONE;
      }
    }

    int streetTold(int street, int what) {
      switch (what) {
        case 0:
          return first[street];
        case 1:
          return second[street];
        case 2:
          return steps[street];
        default:
          return crowd[street];
      }
    }

    boolean isCorner(int number) {
      return number >= 0 && number < corners;
    }

    boolean isSpot(int spot) {
      if (spot < STREET_SPOTS) {
        return isCorner(spot);
      }
      int street = streetOf(spot);
      return street < streets && placeOf(spot) > 0 && placeOf(spot) < steps[street];
    }

    boolean hasStreet(int one, int other) {
      for (int s = 0; s < streets; s++) {
        if (joins(s, one, other)) {
          return true;
        }
      }
      return false;
    }

    boolean joins(int street, int one, int other) {
      return (first[street] == one && second[street] == other) || (first[street] == other && second[street] == one);
    }

    static int spotOn(int street, int place) {
      return STREET_SPOTS + SPOTS_A_STREET * street + place;
    }

    static int streetOf(int spot) {
      return (spot - STREET_SPOTS) / SPOTS_A_STREET;
    }

    static int placeOf(int spot) {
      return (spot - STREET_SPOTS) % SPOTS_A_STREET;
    }
  }

  /** All LAWS as told; the row behind the last one is where the next is written. */
  private static final class LawBook {
    private static final int CHANGES = 12;

    final int[] apart = new int[LAWS];
    final int[] price = new int[LAWS];
    final int[] changes = new int[LAWS];
    final int[] one = new int[LAWS * CHANGES];
    final int[] other = new int[LAWS * CHANGES];
    /** Steps of a street that opens; 0: streets between are shut. */
    final int[] steps = new int[LAWS * CHANGES];
    int count = 0;

    void clearNext() {
      apart[count] = 0;
      price[count] = NONE;
      changes[count] = 0;
    }

    void addChange(int corner, int toCorner, int stepsBetween) {
      if (changes[count] >= CHANGES) {
        return;
      }
      int at = CHANGES * count + changes[count];
      one[at] = corner;
      other[at] = toCorner;
      steps[at] = stepsBetween;
      changes[count]++;
    }

    int firstChange(int law) {
      return CHANGES * law;
    }
  }

  /** The ways through the TOWN by one LAW or none. */
  private static final class Roads {
    private static final int LINKS = 12;

    final Town town;
    final int[] fewest = new int[CORNERS * CORNERS];
    final boolean[] shut = new boolean[STREETS];
    final int[] linkOne = new int[LINKS];
    final int[] linkOther = new int[LINKS];
    final int[] linkSteps = new int[LINKS];
    int links = 0;
    int apart = 0;
    int price = NONE;

    Roads(Town town) {
      this.town = town;
    }

    void lay(LawBook book, int law) {
      for (int s = 0; s < STREETS; s++) {
        shut[s] = false;
      }
      links = 0;
      apart = 0;
      price = NONE;
      if (law >= 0 && law < book.count) {
        apart = book.apart[law];
        price = book.price[law];
        change(book, law);
      }
      joinNeighbours();
      joinAll();
    }

    private void change(LawBook book, int law) {
      int at = book.firstChange(law);
      for (int i = 0; i < book.changes[law]; i++) {
        int steps = book.steps[at + i];
        if (steps == 0) {
          shutBetween(book.one[at + i], book.other[at + i]);
        } else if (links < LINKS) {
          linkOne[links] = book.one[at + i];
          linkOther[links] = book.other[at + i];
          linkSteps[links] = steps;
          links++;
        }
      }
    }

    private void shutBetween(int one, int other) {
      for (int s = 0; s < town.streets; s++) {
        if (town.joins(s, one, other)) {
          shut[s] = true;
        }
      }
      for (int i = 0; i < links; i++) {
        boolean same = linkOne[i] == one && linkOther[i] == other;
        if (same || (linkOne[i] == other && linkOther[i] == one)) {
          linkSteps[i] = FAR_OFF;
        }
      }
    }

    private void joinNeighbours() {
      Arrays.fill(fewest, FAR_OFF);
      for (int k = 0; k < town.corners; k++) {
        fewest[CORNERS * k + k] = 0;
      }
      for (int s = 0; s < town.streets; s++) {
        if (!shut[s]) {
          join(town.first[s], town.second[s], town.steps[s]);
        }
      }
      for (int i = 0; i < links; i++) {
        join(linkOne[i], linkOther[i], linkSteps[i]);
      }
    }

    private void join(int one, int other, int steps) {
      if (steps < fewest[CORNERS * one + other]) {
        fewest[CORNERS * one + other] = steps;
        fewest[CORNERS * other + one] = steps;
      }
    }

    private void joinAll() {
      for (int over = 0; over < town.corners; over++) {
        for (int one = 0; one < town.corners; one++) {
          int half = fewest[CORNERS * one + over];
          for (int other = 0; half < FAR_OFF && other < town.corners; other++) {
            int steps = half + fewest[CORNERS * over + other];
            if (steps < fewest[CORNERS * one + other]) {
              fewest[CORNERS * one + other] = steps;
            }
          }
        }
      }
    }

    boolean isShut(int spot) {
      return spot >= STREET_SPOTS && shut[Town.streetOf(spot)];
    }

    private int toCorner(int spot, int corner) {
      if (spot < STREET_SPOTS) {
        return fewest[CORNERS * spot + corner];
      }
      int street = Town.streetOf(spot);
      int place = Town.placeOf(spot);
      int back = place + fewest[CORNERS * town.first[street] + corner];
      int on = town.steps[street] - place + fewest[CORNERS * town.second[street] + corner];
      return Math.min(back, on);
    }

    /** Steps from a SPOT to each corner, into twelve places of a row. */
    void reach(int spot, int[] into, int at) {
      if (spot < STREET_SPOTS) {
        System.arraycopy(fewest, CORNERS * spot, into, at, CORNERS);
        return;
      }
      int street = Town.streetOf(spot);
      int place = Town.placeOf(spot);
      int back = CORNERS * town.first[street];
      int on = CORNERS * town.second[street];
      for (int k = 0; k < town.corners; k++) {
        int steps = Math.min(place + fewest[back + k], town.steps[street] - place + fewest[on + k]);
        into[at + k] = shut[street] ? FAR_OFF : steps;
      }
    }

    /** FAR_OFF or more: no way. */
    int between(int one, int other) {
      if (isShut(one) || isShut(other)) {
        return FAR_OFF;
      }
      if (other < STREET_SPOTS) {
        return toCorner(one, other);
      }
      if (one < STREET_SPOTS) {
        return toCorner(other, one);
      }
      int street = Town.streetOf(other);
      int place = Town.placeOf(other);
      int steps = Math.min(place + toCorner(one, town.first[street]),
          town.steps[street] - place + toCorner(one, town.second[street]));
      return Town.streetOf(one) == street ? Math.min(steps, Math.abs(place - Town.placeOf(one))) : steps;
    }

    int openSpots() {
      int spots = town.corners;
      for (int s = 0; s < town.streets; s++) {
        spots += shut[s] ? 0 : town.steps[s] - 1;
      }
      return spots;
    }

    int openPeople() {
      int people = 0;
      for (int k = 0; k < town.corners; k++) {
        people += town.people[k];
      }
      for (int s = 0; s < town.streets; s++) {
        people += shut[s] ? 0 : town.steps[s] * town.crowd[s];
      }
      return people;
    }
  }

  /** The SELLERS as they are, with the LAW in force: what an IMAGE holds. */
  private static final class Bakers {
    final int[] spot = new int[SELLERS];
    final int[] price = new int[SELLERS];
    final int[] bread = new int[SELLERS];
    final int[] chain = new int[SELLERS];
    final int[] kind = new int[SELLERS];
    int count = 0;
    int law = NONE;

    boolean has(int seller) {
      return seller >= 0 && seller < count;
    }

    void clear() {
      count = 0;
      law = NONE;
    }

    void copyFrom(Bakers other) {
      System.arraycopy(other.spot, 0, spot, 0, SELLERS);
      System.arraycopy(other.price, 0, price, 0, SELLERS);
      System.arraycopy(other.bread, 0, bread, 0, SELLERS);
      System.arraycopy(other.chain, 0, chain, 0, SELLERS);
      System.arraycopy(other.kind, 0, kind, 0, SELLERS);
      count = other.count;
      law = other.law;
    }
  }

  /**
   * People at corners and along streets, and the least cost to come from there to one of up to four stands.
   * A cost is held as 16 times it and the bits of the stands that have it. A street is looked at in stretches
   * between stands: there every way to a stand goes over one of the stretch's ends.
   */
  private abstract static class Survey {
    private static final int NOWHERE = 16 * 10 * FAR_OFF;

    final Town town;
    final Roads roads;
    final int[] spot = new int[SELLERS];
    final int[] price = new int[SELLERS];
    final int[] reach = new int[SELLERS * CORNERS];
    final int[] base = new int[CORNERS];
    final int[] marks = new int[STREETS];
    int count = 0;
    /** What a step costs. */
    int pace = 1;

    Survey(Town town, Roads roads) {
      this.town = town;
      this.roads = roads;
    }

    abstract void open();

    abstract void meetCorner(int corner);

    abstract void meetStretch(int left, int right, int steps, int crowd);

    abstract void close();

    final void place(int stand, int at) {
      spot[stand] = at;
      roads.reach(at, reach, CORNERS * stand);
    }

    final void goRound() {
      open();
      markStreets();
      for (int k = 0; k < town.corners; k++) {
        base[k] = cheapest(k);
        meetCorner(k);
      }
      for (int s = 0; s < town.streets; s++) {
        if (town.crowd[s] > 0 && !roads.shut[s]) {
          meetStreet(s);
        }
      }
      close();
    }

    /** From a stand to a SPOT on no shut street. */
    final int stepsTo(int stand, int at) {
      int row = CORNERS * stand;
      if (at < STREET_SPOTS) {
        return reach[row + at];
      }
      int street = Town.streetOf(at);
      int place = Town.placeOf(at);
      int steps = Math.min(place + reach[row + town.first[street]],
          town.steps[street] - place + reach[row + town.second[street]]);
      boolean beside = spot[stand] >= STREET_SPOTS && Town.streetOf(spot[stand]) == street;
      return beside ? Math.min(steps, Math.abs(place - Town.placeOf(spot[stand]))) : steps;
    }

    private void markStreets() {
      Arrays.fill(marks, 0);
      for (int j = 0; j < count; j++) {
        if (spot[j] >= STREET_SPOTS) {
          marks[Town.streetOf(spot[j])] |= 1 << Town.placeOf(spot[j]);
        }
      }
    }

    private int cheapest(int corner) {
      int low = NOWHERE;
      for (int j = 0; j < count; j++) {
        low = cheaper(low, 16 * (price[j] + pace * reach[CORNERS * j + corner]) + (1 << j));
      }
      return low;
    }

    private void meetStreet(int street) {
      int steps = town.steps[street];
      int left = base[town.first[street]];
      int end = base[town.second[street]];
      int from = 0;
      for (int t = 1; t < steps && marks[street] >> t != 0; t++) {
        if ((marks[street] >> t & 1) == 1) {
          int right = cheapestOn(street, t);
          meetStretch(left, right, t - from, town.crowd[street]);
          left = right;
          from = t;
        }
      }
      meetStretch(left, end, steps - from, town.crowd[street]);
    }

    private int cheapestOn(int street, int place) {
      int back = base[town.first[street]] + 16 * pace * place;
      int on = base[town.second[street]] + 16 * pace * (town.steps[street] - place);
      int low = cheaper(back, on);
      for (int j = 0; j < count; j++) {
        if (spot[j] >= STREET_SPOTS && Town.streetOf(spot[j]) == street) {
          int steps = Math.abs(place - Town.placeOf(spot[j]));
          low = cheaper(low, 16 * (price[j] + pace * steps) + (1 << j));
        }
      }
      return low;
    }

    private static int cheaper(int one, int other) {
      if (one >> 4 == other >> 4) {
        return one | other;
      }
      return one < other ? one : other;
    }
  }

  /** Who buys where. */
  private static final class Market extends Survey {
    final int[] bread = new int[SELLERS];
    final int[] chain = new int[SELLERS];
    /** PARTS by the bits of the SELLERS that share them; 0: by nobody. */
    final int[] tally = new int[1 << SELLERS];
    final int[] cornerMask = new int[CORNERS];
    final int[] sales = new int[SELLERS];

    Market(Town town, Roads roads) {
      super(town, roads);
    }

    void load(Bakers bakers) {
      count = bakers.count;
      pace = town.step;
      for (int j = 0; j < count; j++) {
        place(j, bakers.spot[j]);
        price[j] = roads.price != NONE ? roads.price : bakers.price[j];
        bread[j] = bakers.bread[j];
        chain[j] = bakers.chain[j];
      }
    }

    void open() {
      Arrays.fill(tally, 0);
      Arrays.fill(sales, 0);
    }

    void meetCorner(int corner) {
      int low = town.home;
      int mask = 0;
      for (int j = 0; j < count; j++) {
        int cost = price[j] + pace * reach[CORNERS * j + corner] - town.likes[BREADS * corner + bread[j]];
        if (cost < low) {
          low = cost;
          mask = 1 << j;
        } else if (cost == low) {
          mask |= 1 << j;
        }
      }
      cornerMask[corner] = mask;
      tally[mask] += PARTS * pace * town.people[corner];
    }

    /** Lengths are in parts of a step, twice as many as STEP: all borders between SELLERS lie on these. */
    void meetStretch(int left, int right, int steps, int crowd) {
      int parts = 2 * pace * steps;
      int border = (right >> 4) - (left >> 4) + pace * steps;
      int fromLeft = Math.max(0, Math.min(border, 2 * (town.home - (left >> 4))));
      int fromRight = Math.max(0, Math.min(parts - border, 2 * (town.home - (right >> 4))));
      int each = PARTS / 2 * crowd;
      tally[left & 15] += each * fromLeft;
      tally[right & 15] += each * fromRight;
      tally[0] += each * (parts - fromLeft - fromRight);
    }

    void close() {
      for (int mask = 1; mask < tally.length; mask++) {
        if (tally[mask] != 0) {
          int share = tally[mask] / Integer.bitCount(mask);
          for (int j = 0; j < count; j++) {
            sales[j] += (mask >> j & 1) * share;
          }
        }
      }
    }

    long worth(int seller) {
      return (long) sales[seller] * price[seller];
    }

    long takings(int ofChain) {
      long sum = 0;
      for (int j = 0; j < count; j++) {
        sum += chain[j] == ofChain ? worth(j) : 0;
      }
      return sum;
    }

    /** What a CHAIN EARNS by one more person at a corner. */
    int takingsOfOne(int ofChain, int corner) {
      int mask = cornerMask[corner];
      int sharers = Integer.bitCount(mask);
      if (sharers == 0) {
        return 0;
      }
      int sum = 0;
      for (int j = 0; j < count; j++) {
        sum += chain[j] == ofChain && (mask >> j & 1) == 1 ? price[j] : 0;
      }
      return sum * (PARTS * pace / sharers);
    }

    boolean isFarEnough(int seller, int at) {
      if (roads.apart == 0) {
        return true;
      }
      for (int j = 0; j < count; j++) {
        if (j != seller && stepsTo(j, at) < roads.apart) {
          return false;
        }
      }
      return true;
    }
  }

  /** What all people walk. */
  private static final class Walks extends Survey {
    private long sum = 0;
    private boolean stranded = false;
    long ownSteps = NONE;
    int ownFirst = NONE;
    int ownSecond = NONE;

    Walks(Town town, Roads roads) {
      super(town, roads);
    }

    void open() {
      sum = 0;
      stranded = false;
    }

    void meetCorner(int corner) {
      if (town.people[corner] > 0) {
        int steps = base[corner] >> 4;
        stranded |= steps >= FAR_OFF;
        sum += 8L * town.people[corner] * steps;
      }
    }

    /** Along t half steps from an end that is a steps off, people walk (4 a t + t t) eighths together. */
    void meetStretch(int left, int right, int steps, int crowd) {
      long fromLeft = left >> 4;
      long fromRight = right >> 4;
      stranded |= fromLeft >= FAR_OFF || fromRight >= FAR_OFF;
      long toLeft = fromRight - fromLeft + steps;
      long toRight = 2L * steps - toLeft;
      sum += crowd * (4 * fromLeft * toLeft + toLeft * toLeft + 4 * fromRight * toRight + toRight * toRight);
    }

    void close() {
      if (stranded) {
        sum = NONE;
      }
    }

    long toSpots(int one, int other) {
      count = other == NONE ? 1 : 2;
      place(0, one);
      if (other != NONE) {
        place(1, other);
      }
      goRound();
      return sum;
    }

    long toBakers(Bakers bakers) {
      count = bakers.count;
      for (int j = 0; j < count; j++) {
        place(j, bakers.spot[j]);
      }
      goRound();
      return sum;
    }

    void findOwn(int n) {
      ownSteps = NONE;
      ownFirst = NONE;
      ownSecond = NONE;
      for (int one = 0; one < town.corners; one++) {
        if (n == 1) {
          noteOwn(one, NONE);
        }
        for (int other = one + 1; n == 2 && other < town.corners; other++) {
          noteOwn(one, other);
        }
      }
    }

    private void noteOwn(int one, int other) {
      long steps = toSpots(one, other);
      if (steps != NONE && (ownSteps == NONE || steps < ownSteps)) {
        ownSteps = steps;
        ownFirst = one;
        ownSecond = other;
      }
    }
  }

  /** MOVES of the SELLERS as they stand in the market just now. */
  private static final class Moves {
    private static final int MOST = CORNERS + STREETS * 11;

    final Town town;
    final Bakers bakers;
    final Market market;
    final int[] others = new int[MOST];
    final long[] history = new long[ROUNDS + 1];
    final int[] endSpot = new int[SELLERS];
    final int[] endPrice = new int[SELLERS];
    /** How the latest CHASE ended, its ROUNDS, its RING's length. */
    final int[] ending = new int[3];
    int otherCount = 0;
    int bestMove = NONE;
    long bestTakings = 0;
    boolean rather = false;
    private int chaseStamp = NONE;
    private int chaseRounds = 0;

    Moves(Town town, Bakers bakers, Market market) {
      this.town = town;
      this.bakers = bakers;
      this.market = market;
    }

    private int standing(int seller) {
      return bakers.kind[seller] == MOVES_PRICE ? market.price[seller] : market.spot[seller];
    }

    private void take(int seller, int move) {
      if (bakers.kind[seller] == MOVES_PRICE) {
        market.price[seller] = move;
      } else {
        market.place(seller, move);
      }
    }

    /** All MOVES but that of staying, the least first. */
    private void listOthers(int seller) {
      boolean byPrice = bakers.kind[seller] == MOVES_PRICE && market.roads.price == NONE;
      boolean byPlace = bakers.kind[seller] == MOVES_PLACE;
      int now = standing(seller);
      otherCount = 0;
      for (int price = town.askLow; byPrice && price <= town.askHigh; price++) {
        addOther(price, price != now);
      }
      for (int k = 0; byPlace && k < town.corners; k++) {
        addOther(k, k != now && market.isFarEnough(seller, k));
      }
      for (int s = 0; byPlace && s < town.streets; s++) {
        for (int t = 1; t < town.steps[s] && !market.roads.shut[s]; t++) {
          int spot = Town.spotOn(s, t);
          addOther(spot, spot != now && market.isFarEnough(seller, spot));
        }
      }
    }

    private void addOther(int move, boolean isOne) {
      if (isOne && otherCount < MOST) {
        others[otherCount] = move;
        otherCount++;
      }
    }

    void findBest(int seller) {
      int now = standing(seller);
      int chain = market.chain[seller];
      market.goRound();
      bestMove = now;
      bestTakings = market.takings(chain);
      listOthers(seller);
      for (int i = 0; i < otherCount; i++) {
        take(seller, others[i]);
        market.goRound();
        long takings = market.takings(chain);
        if (takings > bestTakings) {
          bestTakings = takings;
          bestMove = others[i];
        }
      }
      take(seller, now);
      rather = bestMove != now;
    }

    int firstRestless() {
      for (int j = 0; j < market.count; j++) {
        findBest(j);
        if (rather) {
          return j;
        }
      }
      return NONE;
    }

    void runChase(int stamp, int rounds) {
      if (chaseStamp == stamp && chaseRounds == rounds) {
        return;
      }
      chaseStamp = stamp;
      chaseRounds = rounds;
      market.load(bakers);
      history[0] = snapshot();
      endChase(2, rounds, 0);
      for (int round = 1; round <= rounds && round <= ROUNDS; round++) {
        boolean moved = goOneRound();
        history[round] = snapshot();
        int ago = moved ? sameAgo(round) : 0;
        if (!moved || ago > 0) {
          endChase(moved ? 1 : 0, round, ago);
          break;
        }
      }
      System.arraycopy(market.spot, 0, endSpot, 0, SELLERS);
      System.arraycopy(market.price, 0, endPrice, 0, SELLERS);
    }

    private void endChase(int how, int rounds, int ring) {
      ending[0] = how;
      ending[1] = rounds;
      ending[2] = ring;
    }

    private boolean goOneRound() {
      boolean moved = false;
      for (int j = 0; j < market.count; j++) {
        findBest(j);
        take(j, bestMove);
        moved |= rather;
      }
      return moved;
    }

    /** A SPOT stays below 512 and a PRICE below 64, so four of each fit. */
    private long snapshot() {
      long all = 0;
      for (int j = 0; j < market.count; j++) {
        all = all << 15 | market.spot[j] << 6 | market.price[j];
      }
      return all;
    }

    private int sameAgo(int round) {
      for (int elder = round - 1; elder >= 0; elder--) {
        if (history[elder] == history[round]) {
          return round - elder;
        }
      }
      return 0;
    }

    /** What a CHAIN EARNS grows evenly with each person that goes, so the number for each MOVE is a quotient. */
    int leastShift(int a, int b) {
      int least = town.people[a] + 1;
      for (int j = 0; j < market.count; j++) {
        least = Math.min(least, leastShiftFor(j, a, b));
      }
      return least < 1 || least > town.people[a] ? NONE : least;
    }

    /** 0: the SELLER isn't at REST now. */
    private int leastShiftFor(int seller, int a, int b) {
      int now = standing(seller);
      int chain = market.chain[seller];
      market.goRound();
      long takings = market.takings(chain);
      int pull = market.takingsOfOne(chain, b) - market.takingsOfOne(chain, a);
      long least = town.people[a] + 1;
      listOthers(seller);
      for (int i = 0; i < otherCount; i++) {
        take(seller, others[i]);
        market.goRound();
        long behind = takings - market.takings(chain);
        int gain = market.takingsOfOne(chain, b) - market.takingsOfOne(chain, a) - pull;
        if (behind < 0) {
          least = 0;
        } else if (gain > 0) {
          least = Math.min(least, behind / gain + 1);
        }
      }
      take(seller, now);
      return (int) least;
    }
  }

  /** GAMES of two or three SELLERS on CORNERS. */
  private static final class Grid {
    private static final int ROWS = CORNERS * CORNERS * CORNERS;
    private static final long NOT_LET = -1;

    final Town town;
    final Bakers bakers;
    final Market market;
    final Walks walks;
    /** What each player EARNS by each row. */
    final long[] worth = new long[3 * ROWS];
    final int[] restRows = new int[ROWS];
    final int[] player = new int[3];
    final int[] stride = new int[3];
    final long[] forX = new long[4];
    final long[] forY = new long[4];
    /** BEST LAW, its WALK, how many RESTS. */
    final long[] choice = new long[3];
    int players = 0;
    int found = 0;
    private int stamp = NONE;
    private int choiceStamp = NONE;
    private int choiceX = NONE;
    private int choiceY = NONE;

    Grid(Town town, Bakers bakers, Market market, Walks walks) {
      this.town = town;
      this.bakers = bakers;
      this.market = market;
      this.walks = walks;
    }

    void prepare(int now, int x, int y, int z) {
      boolean same = players == (z == NONE ? 2 : 3) && player[0] == x && player[1] == y;
      if (stamp == now && same && (z == NONE || player[2] == z)) {
        return;
      }
      stamp = now;
      weighAll(x, y, z);
      findRests();
    }

    private void weighAll(int x, int y, int z) {
      int depth = z == NONE ? 1 : town.corners;
      players = z == NONE ? 2 : 3;
      player[0] = x;
      player[1] = y;
      player[2] = z;
      stride[0] = town.corners * depth;
      stride[1] = depth;
      stride[2] = 1;
      market.load(bakers);
      int row = 0;
      for (int cx = 0; cx < town.corners; cx++) {
        market.place(x, cx);
        for (int cy = 0; cy < town.corners; cy++) {
          market.place(y, cy);
          for (int cz = 0; cz < depth; cz++) {
            if (z != NONE) {
              market.place(z, cz);
            }
            weighRow(row);
            row++;
          }
        }
      }
    }

    private void weighRow(int row) {
      boolean let = true;
      for (int p = 0; p < players; p++) {
        let = let && market.isFarEnough(player[p], market.spot[player[p]]);
      }
      if (let) {
        market.goRound();
      }
      for (int p = 0; p < players; p++) {
        worth[ROWS * p + row] = let ? market.worth(player[p]) : NOT_LET;
      }
    }

    private void findRests() {
      int rows = stride[0] * town.corners;
      found = 0;
      for (int row = 0; row < rows && row < ROWS; row++) {
        if (worth[row] != NOT_LET && isRest(row)) {
          restRows[found] = row;
          found++;
        }
      }
    }

    private boolean isRest(int row) {
      for (int p = 0; p < players; p++) {
        int first = ROWS * p + row - cornerIn(row, p) * stride[p];
        long most = worth[ROWS * p + row];
        for (int corner = 0; corner < town.corners; corner++) {
          if (worth[first + corner * stride[p]] > most) {
            return false;
          }
        }
      }
      return true;
    }

    int cornerIn(int row, int p) {
      return stride[p] > 0 && town.corners > 0 ? row / stride[p] % town.corners : 0;
    }

    int cornersOf(int row) {
      return 256 * cornerIn(row, 0) + 16 * cornerIn(row, 1) + (players == 3 ? cornerIn(row, 2) : 0);
    }

    long worthOf(int p, int row) {
      return worth[ROWS * p + row];
    }

    /** The row of a game of two in which player 0 or 1 takes a corner first. */
    int ledRow(int leader) {
      int best = NONE;
      for (int corner = 0; corner < town.corners; corner++) {
        int row = answerTo(leader, corner);
        if (row != NONE && (best == NONE || worthOf(leader, row) > worthOf(leader, best))) {
          best = row;
        }
      }
      return best;
    }

    private int answerTo(int leader, int corner) {
      int other = 1 - leader;
      int best = NONE;
      for (int answer = 0; answer < town.corners; answer++) {
        int row = corner * stride[leader] + answer * stride[other];
        boolean let = worthOf(other, row) != NOT_LET;
        if (let && (best == NONE || worthOf(other, row) > worthOf(other, best))) {
          best = row;
        }
      }
      return best;
    }

    long drawLots(int x, int y, int a, int b, int what) {
      market.load(bakers);
      for (int row = 0; row < 4; row++) {
        market.place(x, row < 2 ? a : b);
        market.place(y, row % 2 == 0 ? a : b);
        if (!market.isFarEnough(x, market.spot[x]) || !market.isFarEnough(y, market.spot[y])) {
          return NONE;
        }
        market.goRound();
        forX[row] = market.worth(x);
        forY[row] = market.worth(y);
      }
      for (int row = 0; row < 4; row++) {
        if (standsStill(forX, forY, row)) {
          return NONE;
        }
      }
      return what < 2 ? inLowest(forY[3] - forY[2], sumOf(forY), what) : inLowest(forX[3] - forX[1], sumOf(forX), what - 2);
    }

    private static long sumOf(long[] four) {
      return four[0] - four[1] - four[2] + four[3];
    }

    private static long inLowest(long p, long q, int what) {
      long common = commonDivisor(Math.abs(p), Math.abs(q));
      if (common == 0) {
        return NONE;
      }
      long part = what == 0 ? p : q;
      return (q < 0 ? -part : part) / common;
    }

    private static long commonDivisor(long one, long other) {
      long high = one;
      long low = other;
      for (int i = 0; i < 200 && low != 0; i++) {
        long left = high % low;
        high = low;
        low = left;
      }
      return high;
    }

    void choose(int now, LawBook book, int x, int y) {
      if (choiceStamp == now && choiceX == x && choiceY == y) {
        return;
      }
      choiceStamp = now;
      choiceX = x;
      choiceY = y;
      Arrays.fill(choice, NONE);
      for (int law = NONE; law < book.count; law++) {
        market.roads.lay(book, law);
        weighAll(x, y, NONE);
        findRests();
        long least = leastWalk();
        if (least != NONE && (choice[1] == NONE || least < choice[1])) {
          choice[0] = law == NONE ? NO_LAW : law;
          choice[1] = least;
          choice[2] = found;
        }
      }
      market.roads.lay(book, bakers.law);
      stamp = NONE;
    }

    private long leastWalk() {
      long least = NONE;
      for (int i = 0; i < found; i++) {
        long steps = walks.toSpots(cornerIn(restRows[i], 0), cornerIn(restRows[i], 1));
        if (steps != NONE && (least == NONE || steps < least)) {
          least = steps;
        }
      }
      return least;
    }
  }

  /** PRICES of two SELLERS at rest, and the game on two corners that ends in them. */
  private static final class Pricing {
    private static final int MOST = 21;

    final Town town;
    final Bakers bakers;
    final Market market;
    final long[] forX = new long[MOST * MOST];
    final long[] forY = new long[MOST * MOST];
    final int[] restPairs = new int[MOST * MOST];
    final long[] stageX = new long[4];
    final long[] stageY = new long[4];
    /** 100 times x's PRICE and y's, for each row that is let. */
    final int[] stagePrices = new int[4];
    int found = 0;
    private int low = 0;
    private int width = 0;
    private int stamp = NONE;
    private int knownX = NONE;
    private int knownY = NONE;

    Pricing(Town town, Bakers bakers, Market market) {
      this.town = town;
      this.bakers = bakers;
      this.market = market;
    }

    void prepare(int now, int x, int y) {
      if (stamp == now && knownX == x && knownY == y) {
        return;
      }
      stamp = now;
      knownX = x;
      knownY = y;
      market.load(bakers);
      findPairs(x, y);
    }

    private void findPairs(int x, int y) {
      int lawful = market.roads.price;
      low = lawful != NONE ? lawful : town.askLow;
      width = lawful != NONE ? 1 : Math.min(MOST, town.askHigh - town.askLow + 1);
      for (int i = 0; i < width; i++) {
        market.price[x] = low + i;
        for (int k = 0; k < width; k++) {
          market.price[y] = low + k;
          market.goRound();
          forX[MOST * i + k] = market.worth(x);
          forY[MOST * i + k] = market.worth(y);
        }
      }
      found = 0;
      for (int i = 0; i < width; i++) {
        for (int k = 0; k < width; k++) {
          if (isRest(i, k)) {
            restPairs[found] = MOST * i + k;
            found++;
          }
        }
      }
    }

    private boolean isRest(int i, int k) {
      int pair = MOST * i + k;
      for (int other = 0; other < width; other++) {
        if (forX[MOST * other + k] > forX[pair] || forY[MOST * i + other] > forY[pair]) {
          return false;
        }
      }
      return true;
    }

    int pairAt(int k) {
      return 100 * (low + restPairs[k] / MOST) + low + restPairs[k] % MOST;
    }

    int firstStage(int x, int y, int a, int b) {
      stamp = NONE;
      market.load(bakers);
      for (int row = 0; row < 4; row++) {
        market.place(x, row < 2 ? a : b);
        market.place(y, row % 2 == 0 ? a : b);
        weighStage(row, x, y);
      }
      for (int row = 0; row < 4; row++) {
        if (standsStill(stageX, stageY, row)) {
          return row;
        }
      }
      return NONE;
    }

    private void weighStage(int row, int x, int y) {
      stageX[row] = NONE;
      stageY[row] = NONE;
      stagePrices[row] = 0;
      if (!market.isFarEnough(x, market.spot[x]) || !market.isFarEnough(y, market.spot[y])) {
        return;
      }
      findPairs(x, y);
      if (found > 0) {
        stageX[row] = forX[restPairs[0]];
        stageY[row] = forY[restPairs[0]];
        stagePrices[row] = pairAt(0);
      }
    }
  }
}
