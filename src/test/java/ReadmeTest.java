import java.lang.reflect.Method;
import java.lang.reflect.Modifier;
import java.net.URL;
import java.net.URLClassLoader;
import java.nio.file.Files;
import java.nio.file.Path;
import java.util.regex.Matcher;
import java.util.regex.Pattern;
import javax.tools.ToolProvider;

/** The rows of Java in README.md are one program, and what stands behind the // of a row is the row's answer. */
public final class ReadmeTest {
  private static final Pattern BLOCK = Pattern.compile("```java\n(.*?)```", Pattern.DOTALL);
  private static final String CALL = "(?:x\\.|tell\\()[^;]*(?:\"[^\"]*\"[^;]*)*?";
  private static final Pattern ANSWERED = Pattern.compile("(?m)^(" + CALL + ");\\s+// (-?\\d+|true|false|NoSuchElementException)\\b.*$");
  private static final Check check = new Check("ReadmeTest");
  private static int answers;
  private static int troubles;

  /** The rows of the page, as a program, call this. */
  public static void answer(String call, long got, long want) {
    answers++;
    if (call.equals("x.trouble()")) troubles |= 1 << want;
    check.due(call + ", answer " + answers + " of README.md", got, want);
  }

  public static void answer(String call, boolean got, boolean want) {
    answer(call, got ? 1 : 0, want ? 1 : 0);
  }

  private static String checked(String call, String answer) {
    String name = call.startsWith("tell(") ? "tell(..)" : call;
    if (!answer.equals("NoSuchElementException")) return "ReadmeTest.answer(\"" + name + "\", " + call + ", " + answer + ");";
    return "{ boolean thrown = false; try { " + call + "; } catch (java.util.NoSuchElementException e) { thrown = true; }"
        + " ReadmeTest.answer(\"" + name + " throws\", thrown, true); }";
  }

  private static String program(String page) {
    StringBuilder helpers = new StringBuilder();
    StringBuilder body = new StringBuilder();
    Matcher block = BLOCK.matcher(page);
    while (block.find()) (block.group(1).startsWith("static") ? helpers : body).append(block.group(1));
    String rows = ANSWERED.matcher(body).replaceAll(row -> Matcher.quoteReplacement(checked(row.group(1), row.group(2))));
    return "public final class ReadmeRows {\n" + helpers + "public static void main(String[] args) {\n" + rows + "}\n}\n";
  }

  private static void run(String program) throws Exception {
    Path folder = Files.createTempDirectory("readme");
    Path source = Files.writeString(folder.resolve("ReadmeRows.java"), program);
    String classes = System.getProperty("java.class.path");
    int code = ToolProvider.getSystemJavaCompiler().run(null, null, null, "-proc:none", "-cp", classes, "-d", folder.toString(), source.toString());
    check.due("the rows compile", code, 0);
    if (code == 0) {
      try (URLClassLoader loader = new URLClassLoader(new URL[] {folder.toUri().toURL()})) {
        loader.loadClass("ReadmeRows").getMethod("main", String[].class).invoke(null, (Object) new String[0]);
      }
    }
    Files.deleteIfExists(folder.resolve("ReadmeRows.class"));
    Files.delete(source);
    Files.delete(folder);
  }

  public static void main(String[] args) throws Exception {
    String program = program(Files.readString(Path.of("README.md")));
    run(program);
    check.due("rows whose answer wasn't looked at", program.lines().filter(row -> row.matches(".*; +// .*")).count(), 0);
    check.due("answers looked at: " + answers, answers > 90, true);
    check.due("each TROUBLE is shown, as bits", troubles, 127);
    for (Method m : PromiseWeb.class.getDeclaredMethods()) {
      if (!Modifier.isPublic(m.getModifiers())) continue;
      check.due(m.getName() + " is called in README.md", Pattern.compile("\\b" + m.getName() + "\\(").matcher(program).find(), true);
    }
    check.finish();
  }
}
