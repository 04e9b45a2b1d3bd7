import java.io.File;
import java.nio.file.Files;
import java.nio.file.Path;
import java.util.regex.Matcher;
import java.util.regex.Pattern;
import javax.tools.ToolProvider;

/** The examples of README.md are compiled and run: each call answers what the page tells. Runs in the project's folder. */
public final class ReadmeTest {
  private static final Check CHECK = new Check("ReadmeTest");
  private static final Pattern EXAMPLE = Pattern.compile("(?s)```java\n(.*?)```");
  private static final Pattern TOLD = Pattern.compile("(.*);\\s*// (NONE|true|false|-?[0-9]+): .*");

  public static void main(String[] args) throws Exception {
    StringBuilder runs = new StringBuilder("public final class ReadmeRuns {\n  static final int NONE = TwoBakers.NONE;\n");
    runs.append("  public static void main(String[] args) {\n    Check check = new Check(\"README.md\");\n");
    int told = 0;
    Matcher example = EXAMPLE.matcher(Files.readString(Path.of("README.md")));
    while (example.find()) {
      runs.append("    {\n");
      for (String line : example.group(1).split("\n")) {
        Matcher call = TOLD.matcher(line);
        boolean tells = call.matches();
        told += tells ? 1 : 0;
        runs.append(tells ? due(call.group(1), call.group(2)) : line).append('\n');
      }
      runs.append("    }\n");
    }
    CHECK.due("the page tells answers: " + told, told > 30, true);
    run(runs.append("    check.end();\n  }\n}\n").toString());
    CHECK.end();
  }

  private static String due(String call, String answer) {
    return "check.due(\"" + call.replace("\"", "\\\"") + "\", " + call + ", " + answer + ");";
  }

  private static void run(String source) throws Exception {
    Path folder = Files.createTempDirectory("readme");
    Path file = Files.writeString(folder.resolve("ReadmeRuns.java"), source);
    String path = System.getProperty("java.class.path");
    int compiled = ToolProvider.getSystemJavaCompiler().run(null, null, null, "-cp", path, "-d", folder.toString(), file.toString());
    CHECK.due("the examples compile", compiled, 0);
    String java = Path.of(System.getProperty("java.home"), "bin", "java").toString();
    Process runs = new ProcessBuilder(java, "-cp", path + File.pathSeparator + folder, "ReadmeRuns").inheritIO().start();
    CHECK.due("all answers are as told", runs.waitFor(), 0);
    for (File left : folder.toFile().listFiles()) {
      left.delete();
    }
    Files.delete(folder);
  }
}
