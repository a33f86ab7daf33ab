import java.lang.reflect.Method;
import java.lang.reflect.Modifier;
import java.net.URL;
import java.net.URLClassLoader;
import java.nio.file.Files;
import java.nio.file.Path;
import java.util.Comparator;
import java.util.List;
import java.util.regex.Matcher;
import java.util.regex.Pattern;
import java.util.spi.ToolProvider;
import java.util.stream.Collectors;
import java.util.stream.Stream;

// README.md shows the class in use: its example is compiled as it stands there and run, and each call of it that has
// a number behind it must answer so. Its table must name every call of the face, with as many numbers as it takes.
public final class ReadmeTest {
  private static final Pattern ROW = Pattern.compile("^(b\\.\\w+\\([^)]*\\)); +// (-?\\d+): .*$");
  private static int wrong = 0;
  private static int shown = 0;

  private static void holds(boolean is, String what) {
    if (!is) { wrong++; System.out.println("README.md: does not hold: " + what); }
  }

  public static void due(String call, long got, long want) {
    shown++;
    holds(got == want, call + " answered " + got + ", it says " + want);
  }

  private static String example(String page) {
    Matcher block = Pattern.compile("(?s)```java\n(.*?)```").matcher(page);
    holds(block.find(), "an example");
    return block.group(1);
  }

  private static String asProgram(String example) {
    StringBuilder code = new StringBuilder("public final class Shown {\n  public static void main(String[] args) {\n");
    for (String line : example.split("\n")) {
      Matcher row = ROW.matcher(line);
      if (row.matches()) code.append("ReadmeTest.due(\"" + row.group(1) + "\", " + row.group(1) + ", " + row.group(2) + "L);\n");
      else code.append(line).append("\n");
      holds(row.matches() || !line.contains("//"), "a row of its form: " + line);
    }
    return code.append("  }\n}\n").toString();
  }

  private static void runExample(String page) throws Exception {
    Path dir = Files.createTempDirectory("readme");
    try {
      Path file = dir.resolve("Shown.java");
      Files.writeString(file, asProgram(example(page)));
      String classes = Path.of(BlendedPatch.class.getProtectionDomain().getCodeSource().getLocation().toURI()).toString();
      int answer = ToolProvider.findFirst("javac").orElseThrow()
          .run(System.out, System.out, "-cp", classes, "-d", dir.toString(), file.toString());
      holds(answer == 0, "the example compiles");
      if (answer != 0) return;
      try (URLClassLoader loader = new URLClassLoader(new URL[] {dir.toUri().toURL()}, ReadmeTest.class.getClassLoader())) {
        loader.loadClass("Shown").getMethod("main", String[].class).invoke(null, (Object) new String[0]);
      }
    } finally {
      removeAll(dir);
    }
  }

  private static void removeAll(Path dir) throws Exception {
    List<Path> all;
    try (Stream<Path> found = Files.walk(dir)) {
      all = found.sorted(Comparator.reverseOrder()).collect(Collectors.toList());
    }
    for (Path p : all) Files.delete(p);
  }

  private static void namesEveryCall(String page) {
    for (Method m : BlendedPatch.class.getDeclaredMethods()) {
      if (!Modifier.isPublic(m.getModifiers())) continue;
      String numbers = m.getParameterCount() == 0 ? "" : "\\w+(, \\w+){" + (m.getParameterCount() - 1) + "}";
      Matcher row = Pattern.compile("(?m)^\\| `" + m.getName() + "\\(" + numbers + "\\)`( \\*)? \\|").matcher(page);
      holds(row.find(), "a row for " + m.getName());
    }
  }

  private static void namesEveryTest(String page) throws Exception {
    try (Stream<Path> tests = Files.list(Path.of("src", "test", "java"))) {
      tests.forEach(t -> holds(page.contains("`" + t.toString().replace('\\', '/') + "`"), "what " + t + " is for"));
    }
  }

  public static void main(String[] args) throws Exception {
    String page = Files.readString(Path.of("README.md"));
    runExample(page);
    namesEveryCall(page);
    namesEveryTest(page);
    holds(shown > 10, "an example with answers");
    System.out.println(wrong == 0 ? shown + " calls that README.md shows answer so" : wrong + " things do not hold");
    if (wrong != 0) System.exit(1);
  }
}
