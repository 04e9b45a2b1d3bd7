import java.util.ArrayList;
import java.util.HashSet;
import java.util.List;
import java.util.Set;
import java.util.regex.Matcher;
import java.util.regex.Pattern;

/** Where a text's FAULT is, by a list of tokens: written apart from the class, to be set against it. */
final class Grammar {
  private static final Set<String> WORDS = Set.of("corner", "people", "like", "street", "step", "home", "ask", "white",
      "brown", "rye", "apart", "shut", "open", "price");
  private static final Pattern TOKEN = Pattern.compile("[a-z]+|[0-9]+|[^a-z0-9 \n]");

  private final List<String> tokens = new ArrayList<>();
  private final List<Integer> places = new ArrayList<>();
  private int at = 0;
  private boolean broken = false;

  final List<String> corners = new ArrayList<>();
  private final Set<String> streets = new HashSet<>();
  int low = 10;
  int high = 10;

  private Grammar(String text) {
    Matcher m = TOKEN.matcher(text);
    while (m.find()) {
      tokens.add(m.group());
      places.add(m.start());
    }
    tokens.add("");
    places.add(text.length());
  }

  /** NONE: no fault. */
  static int townFault(String text) {
    Grammar g = new Grammar(text);
    int told = 0;
    while (!g.broken && !g.sees("")) {
      g.need(told < 40);
      g.statement();
      g.need(";");
      told++;
    }
    g.need(!g.corners.isEmpty());
    return g.broken ? g.places.get(g.at) : -1;
  }

  static int lawFault(String text, List<String> corners, int low, int high) {
    Grammar g = new Grammar(text);
    g.corners.addAll(corners);
    g.low = low;
    g.high = high;
    int told = 0;
    int[] opened = {0};
    while (!g.broken && !g.sees("")) {
      g.need(told < 12);
      g.rule(opened);
      g.need(";");
      told++;
    }
    return g.broken ? g.places.get(g.at) : -1;
  }

  private boolean sees(String token) {
    return tokens.get(at).equals(token);
  }

  private void need(boolean so) {
    broken |= !so;
  }

  private void need(String token) {
    need(sees(token));
    at += broken ? 0 : 1;
  }

  private int number(int from, int to) {
    String token = tokens.get(at);
    need(token.matches("[0-9]{1,4}") && Integer.parseInt(token) >= from && Integer.parseInt(token) <= to);
    at += broken ? 0 : 1;
    return broken ? 0 : Integer.parseInt(token);
  }

  private String corner(String unlike) {
    need(corners.contains(tokens.get(at)) && !sees(unlike));
    at += broken ? 0 : 1;
    return broken ? "" : tokens.get(at - 1);
  }

  private void statement() {
    if (broken) {
      return;
    }
    String kind = tokens.get(at);
    need(Set.of("corner", "street", "step", "home", "ask").contains(kind));
    at += broken ? 0 : 1;
    if (broken) {
      return;
    }
    switch (kind) {
      case "corner" -> cornerRest();
      case "street" -> streetRest();
      case "step" -> number(1, 5);
      case "home" -> number(0, 9999);
      default -> {
        low = number(0, 60);
        high = number(low, Math.min(60, low + 20));
      }
    }
  }

  private void cornerRest() {
    String name = tokens.get(at);
    need(name.matches("[a-z]{1,6}") && !WORDS.contains(name) && !corners.contains(name) && corners.size() < 12);
    at += broken ? 0 : 1;
    corners.add(name);
    if (!broken && sees("people")) {
      at++;
      number(0, 99);
    }
    while (!broken && sees("like")) {
      at++;
      need(Set.of("white", "brown", "rye").contains(tokens.get(at)));
      at += broken ? 0 : 1;
      number(0, 20);
    }
  }

  private void streetRest() {
    need(streets.size() < 32);
    String one = corner("");
    need(broken || !streets.contains(one + " " + tokens.get(at)));
    String other = corner(one);
    number(1, 12);
    streets.add(one + " " + other);
    streets.add(other + " " + one);
    if (!broken && sees("people")) {
      at++;
      number(0, 20);
    }
  }

  private void rule(int[] opened) {
    if (broken) {
      return;
    }
    String kind = tokens.get(at);
    need(Set.of("apart", "shut", "open", "price").contains(kind));
    at += broken ? 0 : 1;
    if (broken) {
      return;
    }
    if (kind.equals("apart")) {
      number(0, 99);
    } else if (kind.equals("price")) {
      number(low, high);
    } else {
      corner(corner(""));
      if (kind.equals("open")) {
        need(opened[0] < 8);
        number(1, 12);
        opened[0]++;
      }
    }
  }
}
