import java.io.ByteArrayOutputStream;
import java.io.IOException;
import java.io.PrintStream;
import java.lang.reflect.Method;
import java.lang.reflect.Modifier;
import java.net.URL;
import java.net.URLClassLoader;
import java.nio.charset.StandardCharsets;
import java.nio.file.Files;
import java.nio.file.Path;
import java.util.List;
import java.util.TreeSet;
import java.util.regex.Matcher;
import java.util.regex.Pattern;
import java.util.stream.Stream;
import javax.tools.JavaCompiler;
import javax.tools.ToolProvider;

/** What README.md says is so: its example prints what stands there, and it names the calls and tests that there are. */
public final class ReadmeTest {
  private static final String FENCE = "```";

  public static void main(String[] args) throws IOException, ReflectiveOperationException {
    String text = Files.readString(Path.of("README.md"));
    Due.ofAll("README.md says how to use the class");
    example(text);
    calls(text);
    classesInside(text);
    Due.ofAll("README.md says how to run the tests");
    tests(text);
    paths(text);
    promises();
    Due.end();
  }

  /** The first block of this language. */
  private static String block(String text, String language) {
    String opens = FENCE + language + "\n";
    int from = text.indexOf(opens);
    int to = text.indexOf("\n" + FENCE, from + opens.length() - 1);
    Due.isTrue("there is a block of " + language, from >= 0 && to >= 0);
    return from < 0 || to < 0 ? "" : text.substring(from + opens.length(), to + 1);
  }

  private static void example(String text) throws IOException, ReflectiveOperationException {
    Path folder = Files.createTempDirectory("readme");
    Path file = folder.resolve("ReadmeExample.java");
    String code = block(text, "java");
    Files.writeString(file, "public final class ReadmeExample {\npublic static void main(String[] args) {\n"
        + code + "}\n}\n");
    JavaCompiler compiler = ToolProvider.getSystemJavaCompiler();
    String path = System.getProperty("java.class.path");
    int rc = compiler.run(null, System.out, System.out, "-cp", path, "-d", folder.toString(), file.toString());
    Due.equal("the example compiles", rc, 0);
    if (rc == 0) {
      String printed = printedBy(folder);
      String due = block(text, "text");
      if (!printed.equals(due)) {
        System.out.print("the example prints:\n" + printed);
      }
      Due.isTrue("the example prints what stands there", printed.equals(due));
    }
    try (Stream<Path> all = Files.list(folder)) {
      for (Path made : all.toList()) {
        Files.delete(made);
      }
    }
    Files.delete(folder);
  }

  private static String printedBy(Path folder) throws IOException, ReflectiveOperationException {
    PrintStream out = System.out;
    ByteArrayOutputStream bytes = new ByteArrayOutputStream();
    try (URLClassLoader loader = new URLClassLoader(new URL[] {folder.toUri().toURL()})) {
      Method example = loader.loadClass("ReadmeExample").getMethod("main", String[].class);
      System.setOut(new PrintStream(bytes, true, StandardCharsets.UTF_8));
      example.invoke(null, (Object) new String[0]);
    } finally {
      System.setOut(out);
    }
    return bytes.toString(StandardCharsets.UTF_8).replace(System.lineSeparator(), "\n");
  }

  /** The words in the first column of the table under this heading. */
  private static TreeSet<String> firstColumn(String text, String heading) {
    TreeSet<String> words = new TreeSet<>();
    int from = text.indexOf("\n| " + heading + " |");
    int to = text.indexOf("\n\n", from + 1);
    Due.isTrue("there is a table of each " + heading, from >= 0);
    String table = from < 0 ? "" : text.substring(from + 1, to < 0 ? text.length() : to);
    for (String row : table.split("\n")) {
      Matcher word = Pattern.compile("`(\\w+)").matcher(row.substring(1, row.indexOf('|', 1)));
      while (word.find()) {
        words.add(word.group(1));
      }
    }
    return words;
  }

  private static void same(String what, TreeSet<String> got, TreeSet<String> due) {
    if (!got.equals(due)) {
      System.out.println(what + ": README.md has " + got + ", there are " + due);
    }
    Due.isTrue(what + " are those that there are", got.equals(due));
  }

  private static void calls(String text) {
    TreeSet<String> due = new TreeSet<>();
    for (Method m : PageBuilder.class.getDeclaredMethods()) {
      if (Modifier.isPublic(m.getModifiers())) {
        due.add(m.getName());
      }
    }
    same("calls", firstColumn(text, "call"), due);
  }

  private static void classesInside(String text) {
    TreeSet<String> there = new TreeSet<>();
    for (Class<?> c : PageBuilder.class.getDeclaredClasses()) {
      there.add(c.getSimpleName());
    }
    String inside = text.substring(text.indexOf("## Inside"), text.indexOf("## Tests"));
    Matcher word = Pattern.compile("`([A-Z][a-z]+)`").matcher(inside);
    while (word.find()) {
      Due.isTrue("there is a class " + word.group(1), there.contains(word.group(1)));
    }
  }

  private static void tests(String text) throws IOException {
    TreeSet<String> due = new TreeSet<>();
    for (Path file : testFiles()) {
      String name = file.getFileName().toString();
      due.add(name.substring(0, name.length() - ".java".length()));
    }
    same("tests", firstColumn(text, "test"), due);
  }

  private static List<Path> testFiles() throws IOException {
    try (Stream<Path> all = Files.list(Path.of("src/test/java"))) {
      return all.filter(file -> file.toString().endsWith("Test.java")).toList();
    }
  }

  private static void paths(String text) {
    for (String path : new String[] {".ci/run", "src/main/java/PageBuilder.java", "src/test/java", "../shared/DOC.md",
        "../shared/LANGUAGE.md", "../shared/tests"}) {
      Due.isTrue("it names " + path, text.contains(path));
      Due.isTrue("there is " + path, Files.exists(Path.of(path)));
    }
    Due.isTrue(".ci/run can be run", Files.isExecutable(Path.of(".ci/run")));
  }

  /** That each promise has a test: one that names its number. */
  private static void promises() throws IOException {
    StringBuilder all = new StringBuilder();
    for (Path file : testFiles()) {
      all.append(Files.readString(file));
    }
    for (int number = 1; number <= 18; number++) {
      Due.isTrue("a test names promise " + number, all.indexOf("Due.of(" + number + ", ") >= 0);
    }
  }
}
