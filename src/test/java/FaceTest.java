import java.io.IOException;
import java.lang.reflect.Constructor;
import java.lang.reflect.Field;
import java.lang.reflect.Method;
import java.lang.reflect.Modifier;
import java.nio.file.Files;
import java.nio.file.Path;
import java.util.Arrays;
import java.util.List;
import java.util.TreeSet;

/** The document's public face, no more and no less, and the rules of LANGUAGE.md that a text can show. */
public final class FaceTest {
  private static final String[] FACE = {
    "int set(int, int, int)", "int cls(int, int, int, int)", "int box(int, int)", "int glue(int, int, int, int)",
    "int kern(int)", "int penalty(int)", "int insert(int, int, boolean)", "int mark(int)", "int run()",
    "int at(int, int)", "int part(int, int)", "long told(int, int)", "int marked(int, int)", "long now(int)",
    "int badness(int, int)", "int count(int)", "int check()",
  };

  private static final String[] FORBIDDEN = {
    "import ", "package ", "->", "::", "synchronized", "assert ", "finally", "catch", "static {", "Exact(",
    "hashCode", "equals", "toString", "System.", "protected ", "Object ", "[][]", "while (true)", "for (;;)",
    "native ", "volatile ", "double ", "float ", "@",
  };
  private static final Path MAIN = Path.of("src/main/java/PageBuilder.java");
  private static final String HEAD_OF_METHOD = "( {4}| {8})\\w[^=;]*\\).* \\{";
  private static final String HEAD_OF_BLOCK = " +(if|for|while|switch|else)\\b.*";
  private static final int MOST_LINES = 60;
  private static final int MOST_PARAMETERS = 7;

  public static void main(String[] args) throws IOException, ReflectiveOperationException {
    Due.ofAll("the face, and LANGUAGE.md");
    members();
    nested();
    text();
    throwsInMarkedAlone();
    shortMethods();
    Due.end();
  }

  private static void members() throws ReflectiveOperationException {
    Class<?> c = PageBuilder.class;
    Due.equal("public final", c.getModifiers() & (Modifier.PUBLIC | Modifier.FINAL), Modifier.PUBLIC | Modifier.FINAL);
    TreeSet<String> names = new TreeSet<>();
    TreeSet<String> open = new TreeSet<>();
    for (Method m : c.getDeclaredMethods()) {
      if (Modifier.isPublic(m.getModifiers())) {
        String types = String.join(", ", Arrays.stream(m.getParameterTypes()).map(Class::getName).toList());
        open.add(m.getReturnType().getName() + " " + m.getName() + "(" + types + ")");
        names.add(m.getName());
        Due.equal(m + " is static", Modifier.isStatic(m.getModifiers()) ? 1 : 0, 0);
      }
    }
    same("methods", open, FACE);
    for (Method m : c.getDeclaredMethods()) {
      boolean hidden = Modifier.isPrivate(m.getModifiers()) || m.isSynthetic();
      Due.equal(m + " is open or private", hidden || Modifier.isPublic(m.getModifiers()) ? 1 : 0, 1);
      Due.equal(m + " bears a name of the face", hidden && names.contains(m.getName()) ? 1 : 0, 0);
    }
    for (Field f : c.getDeclaredFields()) {
      boolean none = f.getName().equals("NONE");
      Due.equal(f + " is private", none || Modifier.isPrivate(f.getModifiers()) ? 1 : 0, 1);
      boolean fixed = !Modifier.isStatic(f.getModifiers()) || Modifier.isFinal(f.getModifiers());
      Due.equal(f + " is no static state", fixed ? 1 : 0, 1);
    }
    Due.equal("NONE is a public constant", c.getField("NONE").getInt(null), -1);
    Constructor<?>[] made = c.getDeclaredConstructors();
    Due.equal("constructors", made.length, 1);
    Due.equal("the constructor's arguments", made[0].getParameterCount(), 0);
    Due.isTrue("the constructor is public", Modifier.isPublic(made[0].getModifiers()));
    Due.equal("the constructor throws nothing", made[0].getExceptionTypes().length, 0);
    for (Method m : c.getDeclaredMethods()) {
      List<Class<?>> thrown = List.of(m.getExceptionTypes());
      boolean marked = m.getName().equals("marked");
      List<Class<?>> due = marked ? List.of(ArrayIndexOutOfBoundsException.class) : List.of();
      Due.isTrue(m + " declares what the document says", thrown.equals(due));
    }
  }

  private static void nested() {
    Class<?>[] inside = PageBuilder.class.getDeclaredClasses();
    Due.equal("at most twelve classes", inside.length <= 12 ? 1 : 0, 1);
    for (Class<?> c : inside) {
      int m = c.getModifiers();
      Due.equal(c + " is static", Modifier.isStatic(m) ? 1 : 0, 1);
      Due.equal(c + " is hidden", Modifier.isPublic(m) || Modifier.isProtected(m) ? 1 : 0, 0);
      Due.equal(c + " has at most twenty fields", c.getDeclaredFields().length <= 20 ? 1 : 0, 1);
      for (Method method : c.getDeclaredMethods()) {
        boolean face = Arrays.stream(FACE).anyMatch(line -> line.contains(" " + method.getName() + "("));
        Due.isTrue(method + " has no name of the face", !face);
        Due.isTrue(method + " has few parameters", method.getParameterCount() <= MOST_PARAMETERS);
      }
      for (Constructor<?> made : c.getDeclaredConstructors()) {
        Due.isTrue(made + " has few parameters", made.getParameterCount() <= MOST_PARAMETERS);
      }
    }
  }

  private static void same(String what, TreeSet<String> got, String[] want) {
    TreeSet<String> due = new TreeSet<>(Arrays.asList(want));
    if (!got.equals(due)) {
      System.out.println(what + ": " + got + ", due are " + due);
    }
    Due.equal(what + " are the document's", got.equals(due) ? 1 : 0, 1);
  }

  /** Without its comments, which may have any words. */
  private static String code() throws IOException {
    return Files.readString(MAIN).replaceAll("(?s)/\\*.*?\\*/", "").replaceAll("//[^\n]*", "");
  }

  private static void text() throws IOException {
    for (String word : FORBIDDEN) {
      Due.equal("the text has '" + word + "'", code().contains(word) ? 1 : 0, 0);
    }
    Due.isTrue("characters 0 to 127", Files.readString(MAIN).chars().allMatch(c -> c < 128));
  }

  private static void throwsInMarkedAlone() throws IOException {
    Due.of(14, "ArrayIndexOutOfBounds: there is no such page or which; no other call throws");
    String code = code();
    int at = code.indexOf("throw new ");
    Due.isTrue("one throws", at > code.indexOf("int marked(") && at < code.indexOf("long now("));
    Due.equal("no other does", code.indexOf("throw new ", at + 1), -1);
  }

  /** A method begins with a line that ends with an opening brace, and ends with the first brace so far to the right. */
  private static void shortMethods() throws IOException {
    Due.ofAll("LANGUAGE.md: methods stay short");
    String[] lines = Files.readString(MAIN).split("\n");
    int methods = 0;
    for (int from = 0; from < lines.length; from++) {
      if (!lines[from].matches(HEAD_OF_METHOD) || lines[from].matches(HEAD_OF_BLOCK)) {
        continue;
      }
      String closes = lines[from].replaceAll("\\S.*", "") + "}";
      int to = from;
      while (to < lines.length && !lines[to].equals(closes)) {
        to++;
      }
      methods++;
      Due.isTrue(lines[from].trim() + " has few lines", to - from < MOST_LINES);
    }
    Due.isTrue("methods are found: " + methods, methods >= FACE.length + 1);
  }
}
