import java.lang.reflect.InvocationTargetException;
import java.net.URL;
import java.net.URLClassLoader;
import java.nio.file.Files;
import java.nio.file.Path;
import java.util.ArrayList;
import java.util.List;
import java.util.regex.Matcher;
import java.util.regex.Pattern;
import java.util.stream.Stream;
import javax.tools.ToolProvider;

/** README.md's example is compiled and run: each line that keeps an answer has the number that it is due to be. */
public final class ReadmeTests {
  private static final Path README = Path.of("README.md");
  private static final Path TESTS = Path.of("src/test/java");
  private static final Pattern ANSWER = Pattern.compile("(?:int|long) (\\w+) = desk\\.(.*); +// (-?\\d+): .+");
  private static final int ANSWERS_AT_LEAST = 20;
  private static int wrong = 0;

  public static void main(String[] args) throws Exception {
    String readme = Files.readString(README);
    List<String> example = example(readme);
    runExample(example);
    namesEachTest(readme);
    hasEachCode(readme);
    need(readme.contains(".ci/run"), "README.md does not say how the tests are run");
    System.out.println(wrong == 0 ? "README.md is as the class answers" : wrong + " places of README.md are wrong");
    if (wrong != 0) System.exit(1);
  }

  /** The example calls this; the names are those of README.md. */
  public static void due(String call, long got, long want) {
    need(got == want, call + " answered " + got + ", README.md says " + want);
  }

  private static void need(boolean holds, String otherwise) {
    if (!holds) {
      wrong++;
      System.out.println(otherwise);
    }
  }

  private static List<String> example(String readme) {
    int from = readme.indexOf("```java\n"), to = readme.indexOf("\n```\n", Math.max(0, from));
    need(from >= 0 && to > from, "README.md has no example");
    return from >= 0 && to > from ? readme.substring(from + 8, to).lines().toList() : List.of();
  }

  private static void runExample(List<String> example) throws Exception {
    List<String> source = new ArrayList<>(List.of("public final class Example {", "  public static void run() {"));
    int answers = 0;
    for (String line : example) {
      source.add(line);
      Matcher m = ANSWER.matcher(line);
      if (m.matches()) {
        source.add("ReadmeTests.due(\"" + m.group(2) + "\", " + m.group(1) + ", " + m.group(3) + "L);");
        answers++;
      } else {
        need(!line.contains(" = desk."), "an answer without its number: " + line);
      }
    }
    source.addAll(List.of("  }", "}"));
    need(answers >= ANSWERS_AT_LEAST, "only " + answers + " answers are in the example");
    Path dir = Files.createTempDirectory("readme");
    try {
      compileAndRun(dir, source);
    } finally {
      for (String name : List.of("Example.java", "Example.class")) Files.deleteIfExists(dir.resolve(name));
      Files.delete(dir);
    }
  }

  private static void compileAndRun(Path dir, List<String> source) throws Exception {
    Path file = Files.write(dir.resolve("Example.java"), source);
    int refused = ToolProvider.getSystemJavaCompiler().run(null, null, null, "-cp", System.getProperty("java.class.path"),
        "-d", dir.toString(), file.toString());
    need(refused == 0, "the example does not compile");
    if (refused != 0) return;
    try (URLClassLoader loader = new URLClassLoader(new URL[] {dir.toUri().toURL()})) {
      loader.loadClass("Example").getMethod("run").invoke(null);
    } catch (InvocationTargetException e) {
      need(false, "the example threw " + e.getCause());
    }
  }

  private static void namesEachTest(String readme) throws Exception {
    try (Stream<Path> files = Files.list(TESTS)) {
      for (Path file : files.toList()) {
        String name = file.getFileName().toString().replace(".java", "");
        need(readme.contains("`" + name + "`"), "README.md does not name " + name);
      }
    }
  }

  private static void hasEachCode(String readme) {
    for (String code : List.of("1", "2", "3", "4", "5", "6", "7", "11 to 13", "31 to 34")) {
      need(readme.contains("\n| " + code + " | "), "README.md does not tell the code " + code);
    }
  }
}
