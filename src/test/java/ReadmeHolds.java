import java.io.File;
import java.io.IOException;
import java.lang.reflect.Method;
import java.lang.reflect.Modifier;
import java.net.URL;
import java.net.URLClassLoader;
import java.nio.file.Files;
import java.nio.file.Path;
import java.util.Comparator;
import java.util.List;
import java.util.regex.Matcher;
import java.util.regex.Pattern;
import java.util.stream.Collectors;
import java.util.stream.Stream;
import javax.tools.JavaCompiler;
import javax.tools.ToolProvider;

/** The Java of README.md compiles and answers as its comments say, and every call and test is named there. */
public final class ReadmeHolds {
  private static final Pattern BLOCK = Pattern.compile("(?s)```java\n(.*?)```");
  private static final Pattern SHOWN = Pattern.compile("(?m)^(int \\w+ = )?(set\\.\\w+\\(.*\\)); +// (-?\\d+|true|false)\\b.*$");
  private static int wrong = 0;
  private static int checks = 0;

  public static void main(String[] args) throws Exception {
    String page = Files.readString(Path.of("README.md"));
    namesAll(page);
    runsAll(page);
    System.out.println(checks + " checks, " + (wrong == 0 ? "the page holds" : wrong + " do not hold"));
    if (wrong != 0) System.exit(1);
  }

  /** Called by what the page shows, too. */
  public static <T> T due(String call, T got, T want) {
    checks++;
    if (!got.equals(want)) {
      wrong++;
      System.out.println(call + " answered " + got + ", README.md says " + want);
    }
    return got;
  }

  private static void namesAll(String page) throws IOException {
    for (Method m : SpoonSet.class.getDeclaredMethods())
      if (Modifier.isPublic(m.getModifiers())) due("the name " + m.getName(), page.contains("`" + m.getName() + "`"), true);
    try (Stream<Path> tests = Files.list(Path.of("src/test/java"))) {
      for (Path test : tests.collect(Collectors.toList())) {
        String name = test.getFileName().toString().replace(".java", "");
        due("the name " + name, page.contains("`" + name + "`"), true);
      }
    }
  }

  private static void runsAll(String page) throws Exception {
    StringBuilder members = new StringBuilder();
    int shown = 0;
    Matcher block = BLOCK.matcher(page);
    while (block.find()) {
      String code = block.group(1);
      if (code.startsWith("static ")) members.append(code);
      else members.append("public static void shown").append(shown++).append("() {\n").append(judged(code)).append("}\n");
    }
    due("how many runs are shown", shown, 2);
    Path out = Files.createTempDirectory("readme");
    try {
      run(out, "public final class Shown {\n" + members + "}\n", shown);
    } finally {
      try (Stream<Path> all = Files.walk(out)) {
        all.sorted(Comparator.reverseOrder()).map(Path::toFile).forEach(File::delete);
      }
    }
  }

  private static String judged(String code) {
    return SHOWN.matcher(code).replaceAll(m -> Matcher.quoteReplacement(
        (m.group(1) == null ? "" : m.group(1)) + "ReadmeHolds.due(\"" + m.group(2) + "\", " + m.group(2) + ", " + m.group(3) + ");"));
  }

  private static void run(Path out, String source, int shown) throws Exception {
    Path file = Files.writeString(out.resolve("Shown.java"), source);
    JavaCompiler compiler = ToolProvider.getSystemJavaCompiler();
    List<String> options = List.of("-cp", System.getProperty("java.class.path"), "-d", out.toString(), file.toString());
    due("compiling what is shown", compiler.run(null, null, null, options.toArray(new String[0])), 0);
    if (wrong != 0) return;
    try (URLClassLoader loader = new URLClassLoader(new URL[] {out.toUri().toURL()}, ReadmeHolds.class.getClassLoader())) {
      for (int i = 0; i < shown; i++) loader.loadClass("Shown").getMethod("shown" + i).invoke(null);
    }
  }
}
