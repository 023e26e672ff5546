import java.nio.file.Files;
import java.nio.file.Path;
import java.util.Comparator;
import java.util.List;
import java.util.regex.Matcher;
import java.util.regex.Pattern;
import java.util.stream.Stream;
import javax.tools.ToolProvider;

/** README.md's lines of Java are compiled and run: each call answers what its comment says. Runs in the project's folder. */
public final class ReadmeTest {
  private static final Path README = Path.of("README.md");
  private static final Pattern LINES = Pattern.compile("(?s)```java\n(.*?)```");
  private static final Pattern ANSWERED = Pattern.compile("(?m)^(x\\.\\w+\\([^;]*\\)); +// (-?\\d+).*$");
  private static final int FEWEST = 25;
  private static final String CLASSES = System.getProperty("java.class.path");

  public static void main(String[] args) throws Exception {
    Path folder = Files.createTempDirectory("readme");
    boolean hold = hold(folder);
    clear(folder);
    if (!hold) {
      System.out.println(README + "'s lines don't hold");
      System.exit(1);
    }
  }

  private static boolean hold(Path folder) throws Exception {
    Matcher lines = LINES.matcher(Files.readString(README));
    if (!lines.find()) return false;
    Matcher answered = ANSWERED.matcher(lines.group(1));
    if (answered.results().count() < FEWEST) return false;
    Path file = folder.resolve("ReadmeLines.java");
    Files.writeString(file, "class ReadmeLines extends Check { public static void main(String[] args) {\n"
      + answered.reset().replaceAll("due(\"$1\", $1, $2);") + "finish(\"README.md's lines answer as they say\"); } }\n");
    return compiles(folder, file) && runs(folder);
  }
  private static boolean compiles(Path folder, Path file) {
    return ToolProvider.getSystemJavaCompiler().run(null, null, null, "-cp", CLASSES, "-d", folder.toString(), file.toString()) == 0;
  }
  // In a machine of its own, since finish() may end the one that it runs in.
  private static boolean runs(Path folder) throws Exception {
    String java = Path.of(System.getProperty("java.home"), "bin", "java").toString();
    String path = folder + System.getProperty("path.separator") + CLASSES;
    return new ProcessBuilder(List.of(java, "-cp", path, "ReadmeLines")).inheritIO().start().waitFor() == 0;
  }
  private static void clear(Path folder) throws Exception {
    try (Stream<Path> all = Files.walk(folder)) {
      for (Path p : all.sorted(Comparator.reverseOrder()).toList()) Files.delete(p);
    }
  }
}
