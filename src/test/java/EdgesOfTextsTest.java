/**
 * Part 1 of the document's Terms, the texts of LAWS, promises 1 to 7: each sentence that names an edge has a method of
 * its own, with its words above it.
 */
public final class EdgesOfTextsTest {
  private static final Check C = new Check("EdgesOfTextsTest");
  private static final int NONE = TwoBakers.NONE;
  private static final String[] TOWN_WORDS = {"corner", "people", "like", "street", "step", "home", "ask", "white", "brown", "rye"};
  private static final String[] LAW_WORDS = {"apart", "shut", "open", "price"};
  private static final String TWO = "corner a;corner b;";
  /** The town that laws are set for here: corners a, bc, d; ASK 3 to 7. */
  private static final String OF_LAWS = "corner a;corner bc;corner d;ask 3 7;";

  public static void main(String[] args) {
    everyStatementEndsWithItsSign();
    cornerHasPeopleOnceAheadOfItsLikes();
    streetHasPeopleOnceAndNoLikes();
    stepHomeAskHaveTheirNumbersAndNoMore();
    statementsEndNoSooner();
    breadsAreThree();
    namesHaveOneToSixLetters();
    namesAreNoWords();
    wordsAreWhole();
    cornersAreNotToldYet();
    twelveCornersAtMost();
    streetsAreBetweenToldCorners();
    streetsAreBetweenUnlikeCorners();
    oneStreetBetweenTwo();
    sixteenStreetsAtMost();
    numbersHaveOneToFourDigits();
    numbersKeepTheirBounds();
    askKeepsItsBounds();
    tokensAreAsLongAsTheyGo();
    tokensAreOfTheseBytes();
    oneCornerAtLeast();
    fortyStatementsAtMost();
    faultIsTheFirstOne();
    faultIsTheLengthIfMoreMustCome();
    whatThereWasIsGone();
    theLastHoldsElseAsWithout();
    nothingStaysOfAnOlderText();
    numberedAsTold();
    noTownAtFirst();
    spotsThatThereAre();
    farOfTwo();
    lawsAreTexts();
    lawsEndNoSooner();
    lawsNamesAreUnlikeCorners();
    lawsNumbersKeepTheirBounds();
    twelveRulesAtMost();
    eightOpensAtMost();
    lawsFaultIsTheLengthIfMoreMustCome();
    nothingStaysOfAnOlderLaw();
    newObject();
    feedsHighestFirst();
    feedsNineHundredAtMost();
    townOfTheFirstBytes();
    townWithAFaultIsAsItWas();
    faultsChangeNoAnswer();
    townOfNoSuchLength();
    lawIsLikewise();
    nineLawsAtMost();
    faultOfTheLatest();
    toldNoneSuch();
    nameNoneSuch();
    C.end();
  }

  private static TwoBakers taken(String text) {
    TwoBakers x = new TwoBakers();
    C.due("is taken: " + text, Check.town(x, text) > 0, true);
    C.due("has no fault: " + text, x.fault(), NONE);
    return x;
  }

  /** The whole text isn't a TOWN, and its FAULT is where the rest begins. */
  private static void stops(String head, String rest) {
    TwoBakers x = new TwoBakers();
    C.due("isn't taken: " + head + rest, Check.town(x, head + rest), NONE);
    C.due("fault of: " + head + rest, x.fault(), head.length());
    C.due("no town by: " + head + rest, x.count(0), 0);
  }

  private static void range(String head, int least, int most, String tail) {
    taken(head + least + tail);
    taken(head + most + tail);
    stops(head, (most + 1) + tail);
    if (least > 0) {
      stops(head, (least - 1) + tail);
    }
  }

  private static TwoBakers lawTaken(String text) {
    TwoBakers x = taken(OF_LAWS);
    C.due("is a law: " + text, Check.law(x, text), 0);
    C.due("has no fault: " + text, x.fault(), NONE);
    return x;
  }

  private static void lawStops(String head, String rest) {
    TwoBakers x = taken(OF_LAWS);
    C.due("isn't a law: " + head + rest, Check.law(x, head + rest), NONE);
    C.due("fault of: " + head + rest, x.fault(), head.length());
    C.due("no law by: " + head + rest, x.count(2), 0);
  }

  private static void lawRange(String head, int least, int most) {
    lawTaken(head + least + ";");
    lawTaken(head + most + ";");
    lawStops(head, (most + 1) + ";");
    if (least > 0) {
      lawStops(head, (least - 1) + ";");
    }
  }

  private static String corners(int many) {
    StringBuilder text = new StringBuilder();
    for (int k = 0; k < many; k++) {
      text.append("corner ").append((char) ('a' + k)).append(";");
    }
    return text.toString();
  }

  /** Twelve corners in a ring, then every second of them with the one three on. */
  private static String streets(int many) {
    StringBuilder text = new StringBuilder(corners(12));
    for (int s = 0; s < many; s++) {
      int from = s < 12 ? s : 2 * (s - 12);
      int to = (from + (s < 12 ? 1 : 3)) % 12;
      text.append("street ").append((char) ('a' + from)).append(' ').append((char) ('a' + to)).append(" 12;");
    }
    return text.toString();
  }

  /** "A TOWN is a text: {STATEMENT ";"}." */
  private static void everyStatementEndsWithItsSign() {
    taken("corner a;");
    stops("corner a", "");
    stops("corner a;corner b", "");
    stops("corner a ", "corner b;");
    stops("corner a;", ";");
    stops("", ";corner a;");
    stops("corner a;", "b;");
    stops("corner a;", "5;");
  }

  /** "corner" NAME ["people" NUMBER] {"like" BREAD NUMBER} */
  private static void cornerHasPeopleOnceAheadOfItsLikes() {
    taken("corner a people 5 like rye 3 like white 2 like brown 1 like rye 0;");
    stops("corner a people 5 ", "people 5;");
    stops("corner a like rye 5 ", "people 5;");
    stops("corner a ", "5;");
    stops("corner a people ", ";");
    stops("corner a like ", "5;");
    stops("corner a like rye ", "like rye 5;");
    stops("corner a like rye 5 ", "rye 5;");
    TwoBakers x = taken("corner a" + " like rye 7".repeat(80) + ";");
    C.due("eighty likes", x.told(202), 7);
  }

  /** "street" NAME NAME NUMBER ["people" NUMBER] */
  private static void streetHasPeopleOnceAndNoLikes() {
    taken(TWO + "street a b 3;");
    taken(TWO + "street a b 3 people 1;");
    stops(TWO + "street a b 3 people 1 ", "people 1;");
    stops(TWO + "street a b 3 ", "like rye 1;");
    stops(TWO + "street a b 3 ", "4;");
    stops(TWO + "street a b 3 people ", ";");
    stops(TWO + "street a b ", "people 1;");
    stops(TWO + "street a ", "3;");
    stops(TWO + "street ", ";");
  }

  /** "step" NUMBER | "home" NUMBER | "ask" NUMBER NUMBER */
  private static void stepHomeAskHaveTheirNumbersAndNoMore() {
    stops("corner a;step ", ";");
    stops("corner a;step 1 ", "1;");
    stops("corner a;home ", ";");
    stops("corner a;home 1 ", "1;");
    stops("corner a;ask ", ";");
    stops("corner a;ask 1 ", ";");
    stops("corner a;ask 1 1 ", "1;");
    stops("corner a;step ", "a;");
  }

  /** What isn't in brackets must be told: a ";" ahead of it is a FAULT. */
  private static void statementsEndNoSooner() {
    for (String statement : new String[] {"corner c people 5 like white 1 like brown 2 like rye 3", "street a b 4 people 2", "step 2", "home 7", "ask 3 9"}) {
      String[] tokens = statement.split(" ");
      String head = TWO;
      for (int i = 0; i < tokens.length; i++) {
        if (mayEndBehind(tokens[0], i)) {
          taken(head + ";");
        } else {
          stops(head, ";");
        }
        head += tokens[i] + " ";
      }
      taken(head + ";");
    }
  }

  /** Whether a statement or LAW that begins with the word is whole by its first so many tokens. */
  private static boolean mayEndBehind(String word, int many) {
    if (word.equals("corner")) {
      return many == 2 || many == 4 || many == 7 || many == 10;
    }
    return word.equals("street") && many == 4;
  }

  /** "BREAD: white, brown, rye (0 to 2)." */
  private static void breadsAreThree() {
    TwoBakers x = taken("corner a like white 1 like brown 2 like rye 3;");
    C.due("white", x.told(200), 1);
    C.due("brown", x.told(201), 2);
    C.due("rye", x.told(202), 3);
    stops("corner a like ", "black 3;");
    stops("corner a like ", "whit 3;");
    stops("corner a like ", "ryes 3;");
    stops("corner a like ", "a 3;");
  }

  /** "NAME: 1 to 6 letters" */
  private static void namesHaveOneToSixLetters() {
    C.due("one letter", taken("corner q;").name(0, NONE), 1);
    C.due("six letters", taken("corner qwerty;").name(0, NONE), 6);
    stops("corner ", "qwertyu;");
    stops("corner ", ";");
    stops("corner ", "1;");
  }

  /** "none of these words or of those of LAWS" */
  private static void namesAreNoWords() {
    for (String[] words : new String[][] {TOWN_WORDS, LAW_WORDS}) {
      for (String word : words) {
        stops("corner ", word + ";");
        stops("corner a;street ", word + " a 3;");
        lawStops("shut ", word + " a;");
        taken("corner " + word.substring(0, word.length() - 1) + ";");
        if (word.length() < 6) {
          taken("corner " + word + "s;");
        }
      }
    }
  }

  /** Words are told whole: one that is other by a letter, or one more or less, is none of them. */
  private static void wordsAreWhole() {
    for (String text : new String[] {"corner b;", "street a c 3;", "step 1;", "home 1;", "ask 1 1;"}) {
      taken("corner a;corner c;" + text);
      stops("corner a;corner c;", "z" + text.substring(1));
      stops("corner a;corner c;", text.replaceFirst("[a-z] ", "z "));
      stops("corner a;corner c;", text.replaceFirst("[a-z] ", " "));
    }
    stops("corner a ", "zeople 3;");
    stops("corner a ", "zike rye 3;");
    stops("corner a like ", "zhite 3;");
    stops("corner a like ", "zrown 3;");
    stops("corner a like ", "zye 3;");
    for (String text : new String[] {"apart 1;", "shut a d;", "open a d 1;", "price 5;"}) {
      lawTaken(text);
      lawStops("", "z" + text.substring(1));
      lawStops("", text.replaceFirst("[a-z] ", "z "));
      lawStops("", text.replaceFirst("[a-z] ", " "));
    }
  }

  /** ""corner" one that isn't told yet" */
  private static void cornersAreNotToldYet() {
    stops("corner a;corner ", "a;");
    stops("corner a;corner bc;corner ", "bc;");
    taken("corner bc;corner b;corner c;corner cb;corner bcd;");
  }

  /** "(12 at most)", "the 13th corner's NAME" */
  private static void twelveCornersAtMost() {
    C.due("twelve", taken(corners(12)).told(0), 12);
    stops(corners(12) + "corner ", "m;");
    stops(corners(12) + "corner ", "a;");
    stops(corners(12) + "corner ", "5;");
    stops(corners(12) + "corner", "");
  }

  /** ""street" ones that are" */
  private static void streetsAreBetweenToldCorners() {
    stops("", "streets a b 3;");
    stops("street ", "a b 3;");
    stops(TWO + "street ", "c a 3;");
    stops(TWO + "street a ", "c 3;");
    stops("corner a;street a ", "b 3;corner b;");
    stops("corner bc;corner d;street ", "b d 3;");
    stops("corner bc;corner d;street d ", "bcd 3;");
  }

  /** "unlike" */
  private static void streetsAreBetweenUnlikeCorners() {
    stops(TWO + "street a ", "a 3;");
    stops(TWO + "street b ", "b 3;");
  }

  /** "without a street between yet" */
  private static void oneStreetBetweenTwo() {
    stops(TWO + "street a b 3;street a ", "b 3;");
    stops(TWO + "street a b 3;street b ", "a 3;");
    taken(TWO + "corner c;street a b 3;street b c 3;street c a 3;");
  }

  /** "(16 streets at most)", "the 17th street's first NAME" */
  private static void sixteenStreetsAtMost() {
    C.due("sixteen", taken(streets(16)).told(1), 16);
    stops(streets(16) + "street ", "b e 3;");
    stops(streets(16) + "street ", "5;");
    stops(streets(16) + "street", "");
  }

  /** "NUMBER: one to four digits" */
  private static void numbersHaveOneToFourDigits() {
    C.due("one digit", taken("corner a people 7;").told(100), 7);
    C.due("four digits", taken("corner a people 0007;").told(100), 7);
    C.due("nine thousand", taken("corner a;home 9876;").told(3), 9876);
    stops("corner a people ", "00007;");
    stops("corner a people ", "4294967296;");
    stops("corner a people ", "00000000000000000000000000007;");
    stops("corner a;home ", "10000;");
    stops("corner a people ", "seven;");
    stops("corner a people ", "-7;");
  }

  /** "a street's first 1 to 12 (its steps), its people 0 to 20", "a corner's people 0 to 99, like 0 to 20; "step" 1 to 5" */
  private static void numbersKeepTheirBounds() {
    range(TWO + "street a b ", 1, 12, ";");
    range(TWO + "street a b 12 people ", 0, 20, ";");
    range("corner a people ", 0, 99, ";");
    range("corner a like white ", 0, 20, ";");
    range("corner a like brown ", 0, 20, ";");
    range("corner a like rye ", 0, 20, ";");
    range("corner a;step ", 1, 5, ";");
    range("corner a;home ", 0, 9999, ";");
  }

  /** ""ask" 0 to 60 each, the second from the first to 20 more" */
  private static void askKeepsItsBounds() {
    taken("corner a;ask 0 0;");
    taken("corner a;ask 60 60;");
    stops("corner a;ask ", "61 61;");
    range("corner a;ask 0 ", 0, 20, ";");
    range("corner a;ask 7 ", 7, 27, ";");
    range("corner a;ask 39 ", 39, 59, ";");
    range("corner a;ask 40 ", 40, 60, ";");
    range("corner a;ask 41 ", 41, 60, ";");
  }

  /** "Tokens as long as they go" */
  private static void tokensAreAsLongAsTheyGo() {
    stops("", "cornera;");
    stops(TWO + "street ", "ab 3;");
    stops("corner a;ask 12", ";");
    taken("corner a people5like rye5like white5;");
    taken("corner a;corner b;street a b 3people 5;");
    stops("corner a", "5;");
    stops("corner a people 5", "a;");
    stops("corner a people 5 ", "5;");
  }

  /** "words of letters a to z, digits, signs; between them blanks (bytes 32 and 10)", "(or byte that begins none)" */
  private static void tokensAreOfTheseBytes() {
    for (char sign = 0; sign < 256; sign++) {
      boolean blank = sign == 32 || sign == 10;
      if (blank) {
        taken(sign + "corner" + sign + "a" + sign + ";" + sign);
      } else {
        stops("", sign + "corner a;");
        stops("corner a;", sign + "");
      }
      if (blank || (sign >= 'a' && sign <= 'z')) {
        taken("corner a" + sign + ";");
      } else if (sign == ';') {
        stops("corner a;", ";");
      } else {
        stops("corner a", sign + ";");
      }
      if (sign >= '0' && sign <= '9') {
        C.due("digit " + sign, taken("corner a people " + sign + ";").told(100), sign - '0');
      }
    }
    stops("corner a;", "Corner b;");
  }

  /** "At least one "corner"", "(also a corner)" */
  private static void oneCornerAtLeast() {
    stops("", "");
    stops("   ", "");
    stops("step 1;", "");
    stops("step 1;home 2;ask 3 4; ", "");
    taken("step 1;home 2;ask 3 4; corner a;");
  }

  /** "at most 40 STATEMENTS", "the 41st STATEMENT: where it begins" */
  private static void fortyStatementsAtMost() {
    String forty = "corner a;" + "step 1;".repeat(39);
    C.due("forty", taken(forty).told(6), 40);
    C.due("the fortieth is the corner", taken("step 1;".repeat(39) + "corner a;").told(6), 40);
    taken(forty + " \n ");
    stops(forty, "step 1;");
    stops(forty + "  ", "step 1;");
    stops(forty, "step");
    stops(forty, ";");
    stops(forty, "?");
    stops("step 1;".repeat(40), "corner a;");
    stops("step 1;".repeat(40), "");
  }

  /** "the place of the first byte of the first token (..) with which no such text goes on" */
  private static void faultIsTheFirstOne() {
    stops("corner a people ", "100;corner a;");
    stops("corner a;\n\n  ", "streets;");
    stops(TWO + "street a b ", "13 people 21;");
    stops("corner a;corner ", "a people 100;");
  }

  /** "the text's length, if more must come" */
  private static void faultIsTheLengthIfMoreMustCome() {
    String[] tokens = ("corner a people 5 like rye 3 ; corner bc ; street a bc 4 people 2 ; step 2 ; home 7 ; ask 3 9 ;").split(" ");
    String text = "";
    for (String token : tokens) {
      text += token;
      if (token.equals(";")) {
        taken(text);
      } else {
        stops(text, "");
        stops(text + "  ", "");
      }
      text += " ";
    }
  }

  /** "Taken it's the TOWN: SELLERS, LAWS, IMAGES there were are gone." */
  private static void whatThereWasIsGone() {
    TwoBakers x = taken(TWO + "street a b 3;");
    x.seller(0, 10, 0, 0, 0);
    Check.law(x, "shut a b;price 10;apart 5;");
    x.force(0);
    x.image();
    C.due("taken anew", Check.town(x, TWO + "street a b 3;ask 4 5;"), 2);
    C.due("sellers", x.count(1), 0);
    C.due("laws", x.count(2), 0);
    C.due("law in force", x.count(3), NONE);
    C.due("images", x.count(4), 0);
    C.due("its way is open", x.far(0, 1), 3);
    C.due("no seller", x.of(0, 0), NONE);
    C.due("no law", x.force(0), false);
    C.due("no image", x.back(0), false);
    C.due("seller 0 again", x.seller(0, 4, 0, 0, 0), 0);
    C.due("at its own price", x.of(0, 1), 4);
    C.due("image 0 again", x.image(), 0);
    C.due("law 0 again", Check.law(x, ""), 0);
  }

  /** "The last "step", "home", "ask" holds, else STEP 1, HOME 9,999, ASK 10 to 10; of a corner's likes for a BREAD the last." */
  private static void theLastHoldsElseAsWithout() {
    TwoBakers x = taken("step 5;step 2;home 7;home 8;ask 1 2;ask 3 4;corner a like rye 9 like brown 1 like rye 2;");
    int[] last = {2, 8, 3, 4};
    for (int i = 0; i < 4; i++) {
      C.due("the last " + i, x.told(2 + i), last[i]);
    }
    C.due("the last like", x.told(202), 2);
    C.due("the other like", x.told(201), 1);
    Check.town(x, "corner a;");
    int[] without = {1, 9999, 10, 10};
    for (int i = 0; i < 4; i++) {
      C.due("as without " + i, x.told(2 + i), without[i]);
    }
    C.due("no like", x.told(202), 0);
  }

  /** A text tells the whole TOWN: nothing stays of an older one, nor of one that had a FAULT. */
  private static void nothingStaysOfAnOlderText() {
    String old = "corner x people 9 like white 8 like brown 7 like rye 6;corner y;street x y 9 people 8;step 3;home 5;ask 0 9;";
    TwoBakers x = taken(old);
    for (int round = 0; round < 2; round++) {
      C.due("the next", Check.town(x, TWO + "street a b 2;"), 2);
      int[] told = {2, 1, 1, 9999, 10, 10, 3};
      for (int what = 0; what < 7; what++) {
        C.due("told " + what, x.told(what), told[what]);
      }
      C.due("people", x.told(100), 0);
      for (int bread = 0; bread < 3; bread++) {
        C.due("like " + bread, x.told(200 + bread), 0);
      }
      C.due("steps", x.told(302), 2);
      C.due("people on a step", x.told(303), 0);
      C.due("name", x.name(0, 0), 'a');
      C.due("with a fault", Check.town(x, old + "!"), NONE);
    }
  }

  /** "CORNERS, STREETS are numbered from 0 on as told." */
  private static void numberedAsTold() {
    TwoBakers x = taken("corner z people 1;corner y people 2;street y z 4 people 1;corner x people 3;street x z 6;");
    int[] streets = {1, 0, 4, 1, 2, 0, 6, 0};
    for (int k = 0; k < 3; k++) {
      C.due("corner " + k, x.name(k, 0), 'z' - k);
      C.due("its people", x.told(100 + k), k + 1);
    }
    for (int i = 0; i < streets.length; i++) {
      C.due("street " + i, x.told(300 + i), streets[i]);
    }
  }

  /** "At first there's no TOWN: no corners (STEP, HOME, ASK as without)." */
  private static void noTownAtFirst() {
    TwoBakers x = new TwoBakers();
    int[] told = {0, 0, 1, 9999, 10, 10, 0};
    for (int what = 0; what < 7; what++) {
      C.due("told " + what, x.told(what), told[what]);
    }
    C.due("no corner", x.told(100), NONE);
    C.due("no like", x.told(200), NONE);
    C.due("no street", x.told(300), NONE);
    C.due("no name", x.name(0, NONE), NONE);
    C.due("no spot", x.far(0, 0), NONE);
    C.due("a law's price of ASK", Check.law(x, "price 10;"), 0);
    C.due("a law's price below ASK", Check.law(x, "price 9;"), NONE);
    C.due("a law's price above ASK", Check.law(x, "price 11;"), NONE);
    C.due("a law's corner", Check.law(x, "shut a b;"), NONE);
    C.due("a law's corner's fault", x.fault(), 5);
  }

  /** "SPOTS: corner k: k; on street s, t steps from its first corner (above 0, below its steps): 100 and 20 s and t." */
  private static void spotsThatThereAre() {
    TwoBakers x = taken(streets(16));
    for (int spot = -30; spot < 500; spot++) {
      int place = Math.floorMod(spot, 20);
      boolean is = spot < 100 ? spot >= 0 && spot < 12 : spot < 100 + 20 * 16 && place > 0 && place < 12;
      x = spot == 200 ? taken(streets(16)) : x;
      C.due("a spot: " + spot, x.far(spot, spot), is ? 0 : NONE);
    }
    C.due("a spot: least", x.far(Integer.MIN_VALUE, Integer.MIN_VALUE), NONE);
    C.due("a spot: most", x.far(Integer.MAX_VALUE, Integer.MAX_VALUE), NONE);
    x = taken(TWO + "corner c;street b a 1;street a c 2;");
    C.due("a street of one step has none", x.far(101, 101), NONE);
    C.due("a street of two steps has one", x.far(121, 121), 0);
    C.due("and no second", x.far(122, 122), NONE);
    x = taken(TWO + "street b a 9;");
    C.due("steps from its first corner", x.far(102, 1), 2);
    C.due("steps to its second corner", x.far(102, 0), 7);
  }

  /** "FAR of two: the fewest steps along streets (a SPOT to itself 0); none." */
  private static void farOfTwo() {
    TwoBakers x = taken(TWO + "corner c;corner d;corner e;street a b 9;street b c 2;street c a 3;street d e 4;");
    C.due("around is nearer", x.far(0, 1), 5);
    C.due("straight is nearer", x.far(1, 2), 2);
    C.due("on one street", x.far(103, 105), 2);
    C.due("on one street, back", x.far(105, 103), 2);
    C.due("on one street, around", x.far(101, 108), 7);
    C.due("around back", x.far(108, 101), 7);
    C.due("a tie of both ways", x.far(101, 1), 6);
    C.due("on two streets", x.far(121, 141), 2);
    C.due("over their other ends", x.far(107, 142), 6);
    C.due("none", x.far(0, 3), NONE);
    C.due("none between streets", x.far(101, 161), NONE);
    C.due("a corner to itself", x.far(4, 4), 0);
    C.due("in the other part", x.far(161, 4), 3);
  }

  /** "LAWS, up to 9, are texts: {LAW ";"}. LAW: "apart" NUMBER | "shut" NAME NAME | "open" NAME NAME NUMBER | "price" NUMBER." */
  private static void lawsAreTexts() {
    lawTaken("");
    lawTaken(" \n");
    lawTaken("apart 1;shut a d;open a d 3;price 5;");
    lawStops("apart 1", "");
    lawStops("apart 1;", ";");
    lawStops("", ";");
    lawStops("", "aparts 1;");
    lawStops("apart ", "a;");
    lawStops("apart 1 ", "1;");
    lawStops("shut a d ", "3;");
    lawStops("open a d ", ";");
    lawStops("open a d 3 ", "people 3;");
    lawStops("price 5 ", "5;");
    for (String word : TOWN_WORDS) {
      lawStops("", word + " a;");
    }
    for (String word : LAW_WORDS) {
      stops("corner a;", word + " 10;");
    }
  }

  /** A ";" ahead of what must be told is a FAULT in a LAW, too. */
  private static void lawsEndNoSooner() {
    for (String law : new String[] {"apart 1", "shut a d", "open a d 3", "price 5"}) {
      String head = "";
      for (String token : law.split(" ")) {
        lawStops(head, ";");
        head += token + " ";
      }
      lawTaken(head + ";");
    }
  }

  /** "NAMES: unlike corners" */
  private static void lawsNamesAreUnlikeCorners() {
    for (String word : new String[] {"shut", "open"}) {
      lawStops(word + " ", "e d 3;");
      lawStops(word + " ", "b d 3;");
      lawStops(word + " ", "bcd d 3;");
      lawStops(word + " a ", "e 3;");
      lawStops(word + " a ", "a 3;");
      lawStops(word + " a ", "5;");
      lawStops(word + " ", "5;");
    }
    lawTaken("shut a bc;shut bc a;shut a bc;");
    lawTaken("open a bc 3;open bc a 3;");
  }

  /** "NUMBER: of "apart" 0 to 99, "open" 1 to 12 steps, "price" of ASK." */
  private static void lawsNumbersKeepTheirBounds() {
    lawRange("apart ", 0, 99);
    lawRange("open a bc ", 1, 12);
    lawRange("price ", 3, 7);
    lawTaken("apart 0099;");
    lawStops("apart ", "00099;");
    TwoBakers x = taken("corner a;");
    C.due("the price of ASK as without", Check.law(x, "price 10;"), 0);
    C.due("another", Check.law(x, "price 11;"), NONE);
    x = taken("corner a;ask 0 0;");
    C.due("price 0", Check.law(x, "price 0;"), 0);
    C.due("price 1", Check.law(x, "price 1;"), NONE);
  }

  /** "At most 12. FAULT likewise." */
  private static void twelveRulesAtMost() {
    lawTaken("apart 1;".repeat(12));
    lawTaken("apart 1;".repeat(12) + "  ");
    lawStops("apart 1;".repeat(12), "apart 1;");
    lawStops("apart 1;".repeat(12) + " ", "x");
    TwoBakers x = lawTaken("shut a bc;".repeat(11) + "open a bc 5;");
    x.force(0);
    C.due("the twelfth holds", x.far(0, 1), 5);
    x = lawTaken("apart 1;".repeat(11) + "price 6;");
    x.seller(0, 3, 0, 0, 0);
    x.force(0);
    C.due("the twelfth is a price", x.of(0, 1), 6);
  }

  /** "8 at most in a text, the ninth's NUMBER is a FAULT" */
  private static void eightOpensAtMost() {
    String eight = "open a bc 9;".repeat(7) + "open a bc 5;";
    TwoBakers x = lawTaken(eight);
    x.force(0);
    C.due("the eighth is open", x.far(0, 1), 5);
    lawTaken(eight + "shut a d;shut a d;shut a d;shut a d;");
    lawStops(eight + "open a bc ", "5;");
    lawStops(eight + "open a bc ", ";");
    lawStops(eight + "open a bc", "");
    lawStops(eight + "open a ", "a 5;");
    lawStops(eight + "open ", "e a 5;");
    lawStops(eight + "shut a d;apart 3;open d a ", "5;");
    C.due("eight in another text", Check.law(x, eight), 1);
  }

  /** "FAULT likewise": the text's length, if more must come. */
  private static void lawsFaultIsTheLengthIfMoreMustCome() {
    String[] tokens = "apart 3 ; shut a bc ; open a d 4 ; price 5 ;".split(" ");
    String text = "";
    for (String token : tokens) {
      text += token;
      if (token.equals(";")) {
        lawTaken(text);
      } else {
        lawStops(text, "");
        lawStops(text + "  ", "");
      }
      text += " ";
    }
  }

  /** A text tells the whole LAW: nothing stays of one that had a FAULT, nor of those of an older TOWN. */
  private static void nothingStaysOfAnOlderLaw() {
    TwoBakers x = taken(OF_LAWS + "street a bc 3;");
    C.due("with a fault", Check.law(x, "apart 9;price 7;shut a bc;open a d 2;!"), NONE);
    C.due("the next", Check.law(x, ""), 0);
    x.force(0);
    x.seller(0, 3, 0, 0, 2);
    x.seller(1, 4, 0, 1, 2);
    C.due("not shut", x.far(0, 1), 3);
    C.due("not opened", x.far(0, 2), NONE);
    C.due("no price", x.of(0, 1), 3);
    C.due("all rows are let", x.rests(0, 1, NONE, NONE), 9);
    Check.law(x, "apart 9;price 7;shut a bc;open a d 2;");
    x.force(1);
    C.due("shut", x.far(0, 1), NONE);
    Check.town(x, OF_LAWS + "street a bc 3;");
    Check.law(x, "");
    Check.law(x, "");
    x.force(1);
    x.seller(0, 3, 0, 0, 2);
    C.due("an older town's isn't shut", x.far(0, 1), 3);
    C.due("an older town's isn't open", x.far(0, 2), NONE);
    C.due("an older town's price isn't", x.of(0, 1), 3);
  }

  /** "TwoBakers(): No TOWN." */
  private static void newObject() {
    TwoBakers x = new TwoBakers();
    int[] counts = {0, 0, 0, NONE, 0, 0, 0, 0};
    for (int what = 0; what < 8; what++) {
      C.due("count " + what, x.count(what), counts[what]);
    }
    C.due("fault", x.fault(), NONE);
    C.due("seller", x.seller(0, 10, 0, 0, 0), NONE);
    C.due("put", x.put(0, 0, 10), false);
    C.due("of", x.of(0, 0), NONE);
    C.due("sold", x.sold(0), NONE);
    C.due("home", x.home(), 0);
    C.due("buys", x.buys(0), NONE);
    C.due("best", x.best(0, 0), NONE);
    C.due("rest", x.rest(), -2);
    C.due("turn", x.turn(0), false);
    C.due("chase", x.chase(1, 0), NONE);
    C.due("rests", x.rests(0, 1, NONE, NONE), NONE);
    C.due("lots", x.lots(0, 1, 0, 1, 0), NONE);
    C.due("lead", x.lead(0, 1, 0), -1000000000000L);
    C.due("prices", x.prices(0, 1, NONE), NONE);
    C.due("stage", x.stage(0, 1, 0, 1, 0), NONE);
    C.due("walk", x.walk(0, NONE), NONE);
    C.due("own 1", x.own(1, 0), NONE);
    C.due("own 2", x.own(2, 0), NONE);
    C.due("loss", x.loss(), -1000000000000L);
    C.due("bestLaw", x.bestLaw(0, 1, 0), NONE);
    C.due("shift", x.shift(0, 1), NONE);
    C.due("image", x.image(), NONE);
    C.due("back", x.back(0), false);
  }

  /** "Twenty bytes come behind those on the tape, of each number the highest first: how many there are." */
  private static void feedsHighestFirst() {
    TwoBakers x = new TwoBakers();
    // "corner hijk;step 2;c" and "orner l;            "
    C.due("twenty", x.feed(0x636f726e, 0x65722068, 0x696a6b3b, 0x73746570, 0x20323b63), 20);
    C.due("forty", x.feed(0x6f726e65, 0x72206c3b, 0x20202020, 0x20202020, 0x20202020), 40);
    C.due("town", x.town(40), 2);
    C.due("name", x.name(0, 3), 'k');
    C.due("step", x.told(2), 2);
    C.due("name over both", x.name(1, 0), 'l');
    x.feed(0x636f726e, 0x65722061, 0x3b80ff7f, 0, 0);
    C.due("a byte 128", x.town(20), NONE);
    C.due("a byte 128: fault", x.fault(), 9);
    C.due("all bytes may come", x.feed(-1, Integer.MIN_VALUE, Integer.MAX_VALUE, 0, 1), 20);
  }

  /** "NONE, doing nothing: there would be more than 900." */
  private static void feedsNineHundredAtMost() {
    TwoBakers x = new TwoBakers();
    int blanks = 0x20202020;
    for (int i = 1; i <= 44; i++) {
      C.due("feed " + i, x.feed(blanks, blanks, blanks, blanks, blanks), 20 * i);
    }
    C.due("the last twenty", x.feed(blanks, blanks, 0x636f726e, 0x65722061, 0x613b2020), 900);
    C.due("too many", x.feed(0x3f3f3f3f, 0, 0, 0, 0), NONE);
    C.due("still too many", x.feed(0, 0, 0, 0, 0), NONE);
    C.due("as many as before", x.count(5), 900);
    C.due("the same as before", x.town(900), 1);
    C.due("its name", x.name(0, NONE), 2);
    C.due("there's room again", x.feed(blanks, blanks, blanks, blanks, blanks), 20);
  }

  /** "The first n bytes of the tape (which is empty then) are the TOWN: how many corners." */
  private static void townOfTheFirstBytes() {
    TwoBakers x = new TwoBakers();
    Check.feed(x, "corner a;corner b;corner c;?");
    C.due("two", x.town(18), 2);
    C.due("empty", x.count(5), 0);
    C.due("nothing there any more", x.town(1), -2);
    Check.feed(x, "corner a;corner bc");
    C.due("a name's first letter isn't a statement", x.town(17), NONE);
    C.due("empty behind a fault", x.count(5), 0);
    Check.feed(x, "corners;");
    C.due("a word ends with the text", x.town(6), NONE);
    C.due("a word ends with the text: fault", x.fault(), 6);
    Check.feed(x, "corner a people 999;");
    C.due("a number ends with the text", x.town(18), NONE);
    C.due("a number ends with the text: fault", x.fault(), 18);
    Check.feed(x, "corner a;corner b;  ");
    C.due("all that there are", x.town(20), 2);
    Check.feed(x, "corner a;");
    C.due("none of them", x.town(0), NONE);
    C.due("none of them: fault", x.fault(), 0);
    C.due("none of them: empty", x.count(5), 0);
    C.due("of an empty tape", x.town(0), NONE);
  }

  /** "NONE: a FAULT (the TOWN is as it was)" */
  private static void townWithAFaultIsAsItWas() {
    TwoBakers x = taken("corner a people 3;corner b people 4 like rye 5;street a b 6 people 7;step 2;home 50;ask 5 9;");
    x.seller(101, 6, 2, 3, 1);
    Check.law(x, "price 8;");
    x.force(0);
    x.image();
    long sold = x.sold(0);
    C.due("with a fault", Check.town(x, "corner z people 9;corner y;street z y 1 people 1;step 5;home 1;ask 1 1;x"), NONE);
    int[] told = {2, 1, 2, 50, 5, 9, 6};
    for (int what = 0; what < 7; what++) {
      C.due("told " + what, x.told(what), told[what]);
    }
    C.due("people", x.told(100), 3);
    C.due("like", x.told(205), 5);
    C.due("steps", x.told(302), 6);
    C.due("crowd", x.told(303), 7);
    C.due("name", x.name(0, 0), 'a');
    C.due("towns", x.count(0), 1);
    C.due("sellers", x.count(1), 1);
    C.due("laws", x.count(2), 1);
    C.due("in force", x.count(3), 0);
    C.due("images", x.count(4), 1);
    C.due("sold", x.sold(0), sold);
    C.due("price", x.of(0, 1), 8);
  }

  /** "(the TOWN is as it was)": all calls answer behind a FAULT as without it, by more corners or fewer than there are. */
  private static void faultsChangeNoAnswer() {
    String more = "corner zebra people 9 like rye 7;corner y people 8;corner x;corner w people 2;street zebra y 12 people 3;street x y 1;step 5;home 1;ask 1 30;!";
    String[] texts = {more, "corner z;step 4;", "step 3;", "", "street a b 1;"};
    for (String text : texts) {
      TwoBakers x = inUse();
      TwoBakers untouched = inUse();
      C.due("isn't taken: " + text, Check.town(x, text.endsWith("!") ? text : text + "!"), NONE);
      sameAnswers("behind the fault of " + text, x, untouched);
      C.due("law behind it", Check.law(x, "shut b a;open c a 2;price 9;"), 1);
      Check.law(untouched, "shut b a;open c a 2;price 9;");
      C.due("in force", x.force(1), true);
      untouched.force(1);
      sameAnswers("by a law behind the fault of " + text, x, untouched);
    }
    for (String text : new String[] {"price 9;shut a b;shut b c;open a c 1;apart 99;!", "open a c 1", "apart 99;apart"}) {
      TwoBakers x = inUse();
      C.due("isn't a law: " + text, Check.law(x, text), NONE);
      sameAnswers("behind the law's fault of " + text, x, inUse());
    }
    TwoBakers x = taken("corner a people 9;corner b people 5;street a b 1;");
    x.seller(0, 10, 0, 0, 0);
    x.seller(0, 10, 0, 1, 0);
    C.due("isn't taken", Check.town(x, "!"), NONE);
    C.due("shift of those as told", x.shift(0, 1), 3);
  }

  /** A TOWN with a LAW in force, two SELLERS and an IMAGE. */
  private static TwoBakers inUse() {
    TwoBakers x = taken("corner a people 3;corner b people 4 like rye 5;corner c people 2;street a b 6 people 7;street b c 3;step 2;home 50;ask 5 9;");
    x.seller(101, 6, 2, 3, 1);
    x.seller(2, 8, 0, 1, 0);
    Check.law(x, "apart 2;");
    x.force(0);
    x.image();
    return x;
  }

  private static void sameAnswers(String when, TwoBakers x, TwoBakers due) {
    for (int i = 0; i < 5; i++) {
      for (int k = 0; k < 20; k++) {
        C.due(when + ": " + i + ", " + k, answer(x, i, k), answer(due, i, k));
      }
    }
    C.due(when + ": put", x.put(1, 121, 5), due.put(1, 121, 5));
    C.due(when + ": put for 4", x.put(1, 121, 4), due.put(1, 121, 4));
    C.due(when + ": put on no spot", x.put(1, 3, 9), due.put(1, 3, 9));
    C.due(when + ": put for 10 on a spot", x.put(1, 121, 10), due.put(1, 121, 10));
    C.due(when + ": turn", x.turn(0), due.turn(0));
    C.due(when + ": turned", x.of(0, 1), due.of(0, 1));
    C.due(when + ": back", x.back(0), due.back(0));
  }

  private static long answer(TwoBakers x, int i, int k) {
    int[] spots = {NONE, 0, 1, 2, 3, 101, 105, 106, 121, 123};
    switch (20 * i + k) {
      case 0: return x.told(0) * 100 + x.told(1) * 10 + x.told(2);
      case 1: return x.told(100) * 100 + x.told(102) * 10 + x.told(103);
      case 2: return x.told(205) * 100 + x.told(208) * 10 + x.told(209);
      case 3: return x.told(302) * 100 + x.told(303) * 10 + x.told(307);
      case 4: return x.told(308) * 100 + x.told(3) * 10 + x.told(6);
      case 5: return x.told(4) * 10 + x.told(5);
      case 6: return x.name(0, 0) * 1000 + x.name(0, NONE) * 10 + x.name(0, 1);
      case 7: return x.name(2, 0) * 1000 + x.name(2, NONE) * 10 + x.name(3, NONE);
      case 8: return x.sold(0) * 10000 + x.sold(1);
      case 9: return x.earns(3) * 10000 + x.earns(1);
      case 10: return x.home() * 10000 + 100 * x.buys(0) + 10 * x.buys(2) + x.buys(3);
      case 11: return 100000 * x.best(0, 0) + x.best(0, 1);
      case 12: return 100000 * x.best(1, 0) + x.best(1, 1);
      case 13: return x.rest();
      case 14: return 1000 * x.rests(0, 1, NONE, NONE) + x.rests(0, 1, NONE, 0);
      case 15: return 1000 * x.rests(1, 0, NONE, NONE) + x.rests(1, 0, NONE, 1);
      case 16: return 1000 * x.lots(0, 1, 0, 2, 0) + x.lots(1, 0, 2, 1, 1);
      case 17: return 100000 * x.lead(0, 1, 0) + x.lead(0, 1, 2);
      case 18: return 100000 * x.lead(1, 0, 1) + x.lead(1, 0, 4);
      case 19: return 10000 * x.prices(0, 1, NONE) + x.prices(0, 1, 0);
      case 20: return 100 * x.stage(0, 1, 0, 2, 0) + x.stage(0, 1, 0, 2, 1);
      case 21: return 100 * x.stage(1, 0, 2, 1, 0) + x.stage(1, 0, 2, 1, 2);
      case 22: return 100000 * x.own(1, 0) + x.own(1, 1);
      case 23: return 100000 * x.own(2, 0) + 10 * x.own(2, 1) + x.own(2, 2);
      case 24: return x.loss();
      case 25: return 100000 * x.bestLaw(0, 1, 0) + 10 * x.bestLaw(0, 1, 1) + x.bestLaw(0, 1, 2);
      case 26: return 1000 * x.shift(0, 2) + 100 * x.shift(2, 0) + x.shift(1, 2) + x.shift(3, 0) + x.shift(0, 3);
      case 27: return x.chase(60, 0) * 10000 + x.chase(60, 1) * 100 + x.chase(60, 20);
      case 28: return x.chase(2, 11) * 100 + x.chase(2, 20);
      case 29: return x.of(0, 1) * 1000 + x.of(1, 0);
      case 30: return x.count(6) * 100000 + x.count(7);
      case 31: return x.count(0) * 10000 + x.count(1) * 1000 + x.count(2) * 100 + x.count(3) * 10 + x.count(4);
      case 32: return x.force(NONE) ? x.far(0, 2) : -2;
      case 33: return x.force(0) ? x.far(101, 2) : -2;
      default:
        int at = 20 * i + k - 40;
        return at < 0 || at >= 60 ? 0 : 100000L * x.far(spots[at / 6], spots[at % 6 + 3]) + x.walk(spots[at / 6], spots[at % 6]);
    }
  }

  /** "-2, doing nothing: n is below 0 or more than there are." */
  private static void townOfNoSuchLength() {
    TwoBakers x = taken("corner a;");
    Check.town(x, "corner b;?");
    Check.feed(x, "corner c;corner d;");
    int[] wrong = {-1, 21, 900, Integer.MIN_VALUE, Integer.MAX_VALUE};
    for (int n : wrong) {
      C.due("town of " + n, x.town(n), -2);
      C.due("law of " + n, x.law(n), -2);
    }
    C.due("the tape stays", x.count(5), 20);
    C.due("the fault stays", x.fault(), 9);
    C.due("the town stays", x.told(0), 1);
    C.due("towns", x.count(0), 1);
    C.due("laws", x.count(2), 0);
    C.due("and can be taken", x.town(20), 2);
  }

  /** "Likewise a LAW: its number. NONE: a FAULT; -2 likewise" */
  private static void lawIsLikewise() {
    TwoBakers x = taken(OF_LAWS);
    Check.feed(x, "apart 5;apart ?");
    C.due("of the first bytes", x.law(8), 0);
    C.due("the tape is empty", x.count(5), 0);
    C.due("of more than there are", x.law(1), -2);
    Check.feed(x, "apart 5;apart ?");
    C.due("with a fault", x.law(20), NONE);
    C.due("its fault", x.fault(), 14);
    C.due("the tape is empty, too", x.count(5), 0);
    C.due("laws as before", x.count(2), 1);
    Check.feed(x, "apart 5;");
    C.due("of no bytes", x.law(0), 1);
    C.due("the tape is empty then", x.count(5), 0);
    C.due("no fault", x.fault(), NONE);
    C.due("nothing is in force by it", x.count(3), NONE);
    C.due("the town stays", x.told(0), 3);
    x.force(1);
    C.due("with a fault again", Check.law(x, "shut a a;"), NONE);
    C.due("in force as before", x.count(3), 1);
    C.due("the next number", Check.law(x, "price 5;"), 2);
  }

  /** "-3, doing nothing: 9 are there." */
  private static void nineLawsAtMost() {
    TwoBakers x = taken(OF_LAWS);
    for (int i = 0; i < 9; i++) {
      C.due("law " + i, Check.law(x, "open a d " + (i + 1) + ";"), i);
    }
    C.due("with a fault first", Check.town(x, "corner a;!"), NONE);
    Check.feed(x, "apart 5;");
    C.due("the tenth", x.law(8), -3);
    C.due("the tenth with a fault", x.law(7), -3);
    C.due("the tenth, empty", x.law(0), -3);
    C.due("the tape stays", x.count(5), 20);
    C.due("the fault stays", x.fault(), 9);
    C.due("laws", x.count(2), 9);
    for (int i = 0; i < 9; i++) {
      C.due("force " + i, x.force(i), true);
      C.due("law " + i + " holds", x.far(0, 2), i + 1);
    }
    C.due("force 9", x.force(9), false);
    x.town(0);
    Check.town(x, OF_LAWS);
    C.due("a town makes room", Check.law(x, ""), 0);
  }

  /** "The FAULT's place of the latest town() or law() that was a number or NONE; NONE: it had none." */
  private static void faultOfTheLatest() {
    TwoBakers x = new TwoBakers();
    C.due("none yet", x.fault(), NONE);
    C.due("-2", x.town(5), -2);
    C.due("none by -2", x.fault(), NONE);
    Check.town(x, "corner a;corner a;");
    C.due("of a town", x.fault(), 16);
    x.town(-1);
    x.law(-1);
    C.due("as before by -2", x.fault(), 16);
    Check.law(x, "apart 5;apart 100;");
    C.due("of a law", x.fault(), 14);
    Check.town(x, "corner a;");
    C.due("none by a town", x.fault(), NONE);
    Check.law(x, "!");
    C.due("at 0", x.fault(), 0);
    Check.law(x, "");
    C.due("none by a law", x.fault(), NONE);
    Check.town(x, "");
    C.due("of no text", x.fault(), 0);
    x.feed(0, 0, 0, 0, 0);
    x.told(0);
    x.force(0);
    C.due("other calls have none", x.fault(), 0);
  }

  /** "told(..) NONE: none such." */
  private static void toldNoneSuch() {
    TwoBakers x = taken(streets(16));
    for (int what = -5; what < 420; what++) {
      boolean is = (what >= 0 && what < 7) || (what >= 100 && what < 112) || (what >= 200 && what < 236) || (what >= 300 && what < 364);
      C.due("told " + what + " is", x.told(what) != NONE, is);
    }
    C.due("the last street's first corner", x.told(360), 6);
    C.due("the last street's second corner", x.told(361), 9);
    C.due("the last street's steps", x.told(362), 12);
    C.due("least", x.told(Integer.MIN_VALUE), NONE);
    C.due("most", x.told(Integer.MAX_VALUE), NONE);
    x = taken("corner a people 5 like rye 6;");
    C.due("people of one", x.told(100), 5);
    C.due("people of no second", x.told(101), NONE);
    C.due("like of one", x.told(202), 6);
    C.due("like of no second", x.told(203), NONE);
    C.due("no street", x.told(300), NONE);
  }

  /** "Letter i (0 on) of a corner's NAME; how many it has (i NONE). NONE: none such." */
  private static void nameNoneSuch() {
    TwoBakers x = taken(corners(10) + "corner qwerty;corner zz;");
    C.due("six", x.name(10, NONE), 6);
    for (int i = 0; i < 6; i++) {
      C.due("letter " + i, x.name(10, i), "qwerty".charAt(i));
    }
    C.due("no seventh", x.name(10, 6), NONE);
    C.due("letter -2", x.name(10, -2), NONE);
    C.due("letter least", x.name(10, Integer.MIN_VALUE), NONE);
    C.due("letter most", x.name(10, Integer.MAX_VALUE), NONE);
    C.due("the last corner's", x.name(11, 1), 'z');
    C.due("no letter of another's", x.name(11, 2), NONE);
    C.due("one letter alone", x.name(0, 1), NONE);
    C.due("corner 12", x.name(12, 0), NONE);
    C.due("corner 12's length", x.name(12, NONE), NONE);
    C.due("corner -1", x.name(-1, 0), NONE);
    C.due("corner least", x.name(Integer.MIN_VALUE, NONE), NONE);
  }
}
