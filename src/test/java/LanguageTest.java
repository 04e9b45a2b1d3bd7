import java.lang.reflect.Constructor;
import java.lang.reflect.Field;
import java.lang.reflect.Method;
import java.lang.reflect.Modifier;
import java.nio.file.Files;
import java.nio.file.Path;
import java.util.Arrays;
import java.util.Set;
import java.util.TreeSet;
import java.util.regex.Matcher;
import java.util.regex.Pattern;

/** The rules of LANGUAGE.md that can be seen from the source and from the class itself. Runs in the project's folder. */
public final class LanguageTest {
  private static final Check CHECK = new Check("LanguageTest");
  private static final String[] FACE = {"feed int,int,int,int,int int", "town int int", "law int int", "fault  int", "told int int",
    "name int,int int", "far int,int int", "force int boolean", "seller int,int,int,int,int int", "put int,int,int boolean",
    "of int,int int", "sold int long", "earns int long", "home  long", "buys int int", "best int,int long", "rest  int",
    "turn int boolean", "chase int,int int", "rests int,int,int,int int", "lots int,int,int,int,int long", "lead int,int,int long",
    "prices int,int,int int", "stage int,int,int,int,int int", "walk int,int long", "own int,int long", "loss  long",
    "bestLaw int,int,int long", "shift int,int int", "image  int", "back int boolean", "count int int"};

  public static void main(String[] args) throws Exception {
    face();
    String source = bare(Files.readString(Path.of("src/main/java/TwoBakers.java")));
    words(source);
    methods(source);
    CHECK.end();
  }

  private static void face() {
    Set<String> seen = new TreeSet<>();
    Set<String> names = new TreeSet<>();
    for (Method m : TwoBakers.class.getDeclaredMethods()) {
      if (!Modifier.isPrivate(m.getModifiers())) {
        String types = String.join(",", Arrays.stream(m.getParameterTypes()).map(Class::getName).toList());
        seen.add(m.getName() + " " + types + " " + m.getReturnType().getName());
        names.add(m.getName());
      }
    }
    CHECK.due("the face is the document's: " + seen, seen.equals(new TreeSet<>(Arrays.asList(FACE))), true);
    CHECK.due("public and final", TwoBakers.class.getModifiers(), Modifier.PUBLIC | Modifier.FINAL);
    for (Field f : TwoBakers.class.getDeclaredFields()) {
      CHECK.due("field " + f.getName(), Modifier.isPrivate(f.getModifiers()) || f.getName().equals("NONE"), true);
      CHECK.due("no state of the class: " + f.getName(),
          !Modifier.isStatic(f.getModifiers()) || Modifier.isFinal(f.getModifiers()), true);
    }
    for (Constructor<?> c : TwoBakers.class.getDeclaredConstructors()) {
      CHECK.due("the one constructor", c.getParameterCount(), 0);
    }
    for (Class<?> inside : TwoBakers.class.getDeclaredClasses()) {
      CHECK.due("static: " + inside.getName(), Modifier.isStatic(inside.getModifiers()), true);
      CHECK.due("fields of " + inside.getName(), Arrays.stream(inside.getDeclaredFields())
          .filter(f -> !Modifier.isStatic(f.getModifiers())).count() <= 20, true);
      for (Method m : inside.getDeclaredMethods()) {
        CHECK.due("no second " + m.getName(), names.contains(m.getName()), false);
        CHECK.due("parameters of " + m.getName(), m.getParameterCount() <= 7, true);
      }
    }
    CHECK.due("classes", TwoBakers.class.getDeclaredClasses().length <= 12, true);
  }

  /** The source without comments and texts. */
  private static String bare(String source) {
    return source.replaceAll("(?s)/\\*.*?\\*/", "").replaceAll("//[^\n]*", "").replaceAll("\"[^\"\n]*\"", "\"\"");
  }

  private static void words(String source) {
    String[] never = {"throw", "throws", "try", "catch", "synchronized", "assert", "new Thread", "System\\.(?!arraycopy)", "->", "::",
      "\\bnull\\b", "Exact\\(", "\"\" *\\+", "\\+ *\"\"", "\\bvar\\b", "@", "hashCode", "\\.equals", "toString"};
    for (String word : never) {
      boolean isWord = word.matches("[a-z]+");
      Matcher m = Pattern.compile(isWord ? "\\b" + word + "\\b" : word).matcher(source);
      CHECK.due("has " + word, m.find(), false);
    }
    Matcher imports = Pattern.compile("import ([^;]*);").matcher(source);
    while (imports.find()) {
      CHECK.due("import " + imports.group(1), imports.group(1).equals("java.util.Arrays"), true);
    }
    Matcher fills = Pattern.compile("Arrays\\.(\\w+)").matcher(source);
    while (fills.find()) {
      CHECK.due("Arrays." + fills.group(1), Set.of("fill", "copyOf", "copyOfRange").contains(fills.group(1)), true);
    }
    CHECK.due("signs beyond 127", source.chars().anyMatch(c -> c > 127), false);
  }

  private static void methods(String source) {
    Pattern head = Pattern.compile("^( +)(?:[a-zA-Z\\[\\]]+ )+\\w+\\([^;]*\\{$");
    String[] lines = source.split("\n");
    for (int i = 0; i < lines.length; i++) {
      Matcher m = head.matcher(lines[i]);
      if (m.matches() && !lines[i].trim().matches("(if|for|while|switch|else).*")) {
        int end = i;
        while (!lines[end].equals(m.group(1) + "}")) {
          end++;
        }
        CHECK.due("lines of " + lines[i].trim(), end - i <= 60, true);
      }
    }
  }
}
