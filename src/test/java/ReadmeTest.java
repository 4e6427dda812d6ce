import java.net.URL;
import java.net.URLClassLoader;
import java.nio.file.Files;
import java.nio.file.Path;
import java.util.ArrayList;
import java.util.List;
import java.util.Set;
import java.util.TreeSet;
import java.util.regex.Matcher;
import java.util.regex.Pattern;
import javax.tools.JavaCompiler;
import javax.tools.ToolProvider;

/** What README.md shows of the class is so: its example is compiled and run; run from the project's folder. */
public final class ReadmeTest {
  // A call, and the number that its comment begins with.
  private static final Pattern SHOWN = Pattern.compile("(?m)^(x\\.\\w+\\(.*?\\)); +// (-?\\d+)\\b.*$");

  private static int wrong = 0;

  private ReadmeTest() {}

  /** The example calls this by its name. */
  public static void due(String call, long got, long want) {
    if (got != want) {
      wrong++;
      System.out.println("README.md: " + call + " answered " + got + ", the page says " + want);
    }
  }

  private static void holds(boolean so, String what) {
    if (!so) {
      wrong++;
      System.out.println("not so: " + what);
    }
  }

  private static List<String> blocks(String page, String language) {
    List<String> found = new ArrayList<>();
    Matcher block = Pattern.compile("(?ms)^```" + language + "\n(.*?)^```").matcher(page);
    while (block.find()) found.add(block.group(1));
    return found;
  }

  private static void run(Path folder, String code) throws Exception {
    Path file = folder.resolve("Shown.java");
    Files.writeString(file, "public final class Shown { public static void main(String[] args) {\n" + code + "} }\n");
    JavaCompiler compiler = ToolProvider.getSystemJavaCompiler();
    String classes = System.getProperty("java.class.path");
    int failed = compiler.run(null, System.out, System.out, "-proc:none", "-cp", classes, "-d", folder.toString(), file.toString());
    holds(failed == 0, "the example is compiled");
    if (failed == 0) {
      try (URLClassLoader loader = new URLClassLoader(new URL[] {folder.toUri().toURL()})) {
        loader.loadClass("Shown").getMethod("main", String[].class).invoke(null, (Object) new String[0]);
      }
    }
    for (String name : new String[] {"Shown.java", "Shown.class"}) Files.deleteIfExists(folder.resolve(name));
  }

  private static void namesAll(String page) {
    Set<String> due = new TreeSet<>();
    for (java.lang.reflect.Method m : TurfHeaps.class.getMethods()) {
      if (m.getDeclaringClass() == TurfHeaps.class) due.add(m.getName());
    }
    Set<String> named = new TreeSet<>();
    Matcher line = Pattern.compile("(?m)^\\| [^|]* \\| (`.*`) \\|$").matcher(page);
    while (line.find()) {
      for (String name : line.group(1).replace("`", "").split(" ")) holds(named.add(name), name + " is named once");
    }
    holds(named.equals(due), "the table names each call: " + named);
  }

  private static void namesTests(String page) throws Exception {
    try (var files = Files.list(Path.of("src/test/java"))) {
      for (Path file : (Iterable<Path>) files.sorted()::iterator) {
        String name = file.getFileName().toString().replace(".java", "");
        if (name.endsWith("Test")) holds(page.contains("| " + name + " |"), "the page tells of " + name);
      }
    }
  }

  public static void main(String[] args) throws Exception {
    String page = Files.readString(Path.of("README.md"));
    List<String> examples = blocks(page, "java");
    Path folder = Files.createTempDirectory("readme");
    int shown = 0;
    for (String example : examples) {
      shown += (int) SHOWN.matcher(example).results().count();
      run(folder, SHOWN.matcher(example).replaceAll("ReadmeTest.due(\"$1\", $1, $2L);"));
    }
    Files.delete(folder);
    holds(shown >= 20, "the page shows answers");
    namesAll(page);
    namesTests(page);
    System.out.println(wrong == 0 ? shown + " answers are as the page shows them" : wrong + " things are not as the page says");
    if (wrong != 0) System.exit(1);
  }
}
