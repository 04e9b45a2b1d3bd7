import java.util.List;
import java.util.Random;

/** Texts of towns and laws: faults by hand, then texts changed by chance and set against Grammar. */
public final class TextTest {
  private static final Check CHECK = new Check("TextTest");
  private static final String[] BITS = {"corner", "people", "like", "street", "step", "home", "ask", "white", "brown", "rye",
    "apart", "shut", "open", "price", ";", " ", "\n", "a", "b", "c", "d", "abcdef", "abcdefg", "0", "1", "5", "6", "10", "12",
    "13", "20", "21", "60", "61", "99", "100", "0005", "00005", "9999", "10000", "A", "-", "_", "\t", "\u00e9", ",", "a1", "1a"};

  public static void main(String[] args) {
    faultsByHand();
    limits();
    Random random = new Random(7);
    for (int i = 0; i < 60000; i++) {
      changedTown(random);
      changedLaw(random);
    }
    CHECK.end();
  }

  private static void townFault(String text, int want) {
    TwoBakers x = new TwoBakers();
    int got = Check.town(x, text);
    CHECK.due("town '" + text + "'", got < 0, want >= 0);
    CHECK.due("fault of '" + text + "'", x.fault(), want);
    CHECK.due("tape behind '" + text + "'", x.count(5), 0);
    CHECK.due("Grammar's fault of '" + text + "'", Grammar.townFault(text), want);
  }

  private static void lawFault(String text, int want) {
    TwoBakers x = new TwoBakers();
    Check.town(x, "corner a;corner bc;corner d;ask 3 7;");
    CHECK.due("law '" + text + "'", Check.law(x, text), want >= 0 ? -1 : 0);
    CHECK.due("fault of '" + text + "'", x.fault(), want);
    CHECK.due("count 2 behind '" + text + "'", x.count(2), want >= 0 ? 0 : 1);
    CHECK.due("Grammar's fault of '" + text + "'", Grammar.lawFault(text, List.of("a", "bc", "d"), 3, 7), want);
  }

  private static void faultsByHand() {
    townFault("", 0);
    townFault("   ", 3);
    townFault("corner a;", -1);
    townFault(" \n corner\na\n;\n ", -1);
    townFault("corner a", 8);
    townFault("corner a  ", 10);
    townFault("cornera;", 0);
    townFault("corner a\t;", 8);
    townFault("corner a people10like rye3like rye 4;", -1);
    townFault("corner a people 5 people 6;", 18);
    townFault("corner a like rye 3 people 6;", 20);
    townFault("corner a like 3;", 14);
    townFault("corner rye;", 7);
    townFault("corner price;", 7);
    townFault("corner 5;", 7);
    townFault("corner abcdef;", -1);
    townFault("corner a people 0099;", -1);
    townFault("corner a people 00099;", 16);
    townFault("corner a;ask 60 60;", -1);
    townFault("corner a;ask 61 61;", 13);
    townFault("corner a;ask 50 61;", 16);
    townFault("corner a;ask 40 60;", -1);
    townFault("corner a;ask 39 60;", 16);
    townFault("corner a;ask 5;", 14);
    townFault("corner a;step 0;", 14);
    townFault("corner a;step 5;home 0;home 9999;", -1);
    townFault("corner a;corner b;street a b;", 28);
    townFault("corner a;corner b;street a b 0;", 29);
    townFault("corner a;corner b;street a b 1 people 21;", 38);
    townFault("corner a;corner b;street a b 12 people 20;", -1);
    townFault("corner a;street a b 3;corner b;", 18);
    townFault("corner a;corner b;street a b 3;street a b 4;", 40);
    townFault("corner a;apart 5;", 9);
    townFault("corner a;corner b;\u00ff", 18);
    lawFault("", -1);
    lawFault("  ", -1);
    lawFault("apart 99;apart 0;", -1);
    lawFault("apart 5", 7);
    lawFault("price 2;", 6);
    lawFault("price 8;", 6);
    lawFault("price 3;price 7;", -1);
    lawFault("shut a bc;shut bc a;shut a d;", -1);
    lawFault("shut a bc 3;", 10);
    lawFault("shut b a;", 5);
    lawFault("shut a", 6);
    lawFault("open a d;", 8);
    lawFault("open a d 0;", 9);
    lawFault("open a d 12;open d a 1;", -1);
    lawFault("corner e;", 0);
    lawFault("apart 1;;", 8);
  }

  private static String many(String text, int times) {
    return text.repeat(times);
  }

  private static void limits() {
    StringBuilder corners = new StringBuilder();
    for (int k = 0; k < 12; k++) {
      corners.append("corner ").append((char) ('a' + k)).append(";");
    }
    townFault(corners.toString(), -1);
    townFault(corners + "corner m;", 115);
    townFault(corners + "corner", 114);
    townFault(corners + "corner ;", 115);
    StringBuilder streets = new StringBuilder(corners);
    for (int k = 0; k < 16; k++) {
      streets.append("street ").append((char) ('a' + k % 12)).append(' ').append((char) ('a' + (k + 1 + k / 12) % 12)).append(" 1;");
    }
    townFault(streets.toString(), -1);
    townFault(streets + "street a g 1;", 108 + 16 * 13 + 7);
    townFault(streets + "street", 108 + 16 * 13 + 6);
    townFault("corner a;" + many("step 1;", 39), -1);
    townFault("corner a;" + many("step 1;", 39) + "  ", -1);
    townFault("corner a;" + many("step 1;", 39) + " step 1;", 9 + 39 * 7 + 1);
    townFault("corner a;" + many("step 1;", 39) + "!", 9 + 39 * 7);
    townFault(many("step 1;", 40), 280);
    lawFault(many("apart 1;", 12), -1);
    lawFault(many("apart 1;", 12) + "price 3;", 96);
    lawFault(many("open a d 1;", 8), -1);
    lawFault(many("open a d 1;", 8) + "shut a d;", -1);
    lawFault(many("open a d 1;", 8) + "open a d 1;", 97);
    lawFault(many("open a d 1;", 8) + "open a d", 96);
    lawFault(many("open a d 1;", 8) + "open a a 1;", 95);
  }

  private static String townByChance(Random random) {
    StringBuilder text = new StringBuilder();
    int size = 1 + random.nextInt(4);
    for (int k = 0; k < size; k++) {
      text.append("corner ").append((char) ('a' + k));
      text.append(random.nextBoolean() ? " people " + random.nextInt(100) : "");
      text.append(random.nextBoolean() ? " like rye " + random.nextInt(21) : "").append(";");
    }
    for (int k = 1; k < size; k++) {
      text.append("street a ").append((char) ('a' + k)).append(' ').append(1 + random.nextInt(12));
      text.append(random.nextBoolean() ? " people " + random.nextInt(21) : "").append(";");
    }
    text.append("step ").append(1 + random.nextInt(5)).append(";home ").append(random.nextInt(10000));
    return text.append(";ask 5 ").append(5 + random.nextInt(21)).append(";").toString();
  }

  private static String changed(String text, Random random) {
    StringBuilder now = new StringBuilder(text);
    for (int i = random.nextInt(3); i > 0; i--) {
      int from = random.nextInt(now.length() + 1);
      int to = Math.min(now.length(), from + (random.nextBoolean() ? 0 : random.nextInt(8)));
      now.replace(from, to, random.nextInt(3) == 0 ? "" : BITS[random.nextInt(BITS.length)]);
    }
    if (random.nextInt(10) == 0) {
      now.setLength(random.nextInt(now.length() + 1));
    }
    return now.toString();
  }

  private static void changedTown(Random random) {
    String text = changed(townByChance(random), random);
    TwoBakers x = new TwoBakers();
    int got = Check.town(x, text);
    int want = Grammar.townFault(text);
    CHECK.due("fault of '" + text + "'", x.fault(), want);
    CHECK.due("town of '" + text + "'", got == -1, want >= 0);
  }

  private static void changedLaw(Random random) {
    StringBuilder text = new StringBuilder();
    for (int i = random.nextInt(14); i > 0; i--) {
      String[] rules = {"apart 3;", "shut a bc;", "open bc d 4;", "price 4;", "open a d 12;"};
      text.append(rules[random.nextInt(rules.length)]);
    }
    String now = changed(text.toString(), random);
    TwoBakers x = new TwoBakers();
    Check.town(x, "corner a;corner bc;corner d;ask 3 7;");
    int got = Check.law(x, now);
    int want = Grammar.lawFault(now, List.of("a", "bc", "d"), 3, 7);
    CHECK.due("fault of law '" + now + "'", x.fault(), want);
    CHECK.due("law of '" + now + "'", got, want >= 0 ? -1 : 0);
  }
}
