/** Counts the answers that aren't as due, and feeds texts to a TwoBakers. */
final class Check {
  private final String name;
  private int seen = 0;
  private int wrong = 0;

  Check(String name) {
    this.name = name;
  }

  void due(String call, long got, long want) {
    seen++;
    if (got != want) {
      wrong++;
      if (wrong <= 40) {
        System.out.println(name + ": " + call + " answered " + got + ", due is " + want);
      }
    }
  }

  void due(String call, boolean got, boolean want) {
    due(call, got ? 1 : 0, want ? 1 : 0);
  }

  boolean hasFailed() {
    return wrong > 0;
  }

  void end() {
    System.out.println(name + ": " + seen + " answers, " + wrong + " not as due");
    if (wrong > 0) {
      System.exit(1);
    }
  }

  /** The text goes onto the tape, with blanks behind it to the next twenty. */
  static void feed(TwoBakers x, String text) {
    byte[] bytes = new byte[(text.length() + 19) / 20 * 20];
    java.util.Arrays.fill(bytes, (byte) 32);
    for (int i = 0; i < text.length(); i++) {
      bytes[i] = (byte) text.charAt(i);
    }
    for (int i = 0; i < bytes.length; i += 20) {
      x.feed(four(bytes, i), four(bytes, i + 4), four(bytes, i + 8), four(bytes, i + 12), four(bytes, i + 16));
    }
  }

  private static int four(byte[] bytes, int at) {
    return (bytes[at] & 255) << 24 | (bytes[at + 1] & 255) << 16 | (bytes[at + 2] & 255) << 8 | (bytes[at + 3] & 255);
  }

  static int town(TwoBakers x, String text) {
    feed(x, text);
    return x.town(text.length());
  }

  static int law(TwoBakers x, String text) {
    feed(x, text);
    return x.law(text.length());
  }
}
