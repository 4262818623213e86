import java.io.IOException;
import java.lang.reflect.InvocationTargetException;
import java.net.URL;
import java.net.URLClassLoader;
import java.nio.file.Files;
import java.nio.file.Path;
import java.util.function.Supplier;
import java.util.regex.Matcher;
import java.util.regex.Pattern;
import javax.tools.JavaCompiler;
import javax.tools.ToolProvider;

/** README.md tells the truth: its lines of Java compile, and answer what stands behind them. */
public final class ReadmeTests {
  private static final Path README = Path.of(System.getProperty("readme", "README.md"));
  private static final Pattern BLOCK = Pattern.compile("```java\n(.*?)```", Pattern.DOTALL);
  private static final Pattern PROMISE = Pattern.compile(
      "^(kitchen\\.\\w+\\([^()]*\\));\\s+// ((?:answers|throws) .*)$", Pattern.MULTILINE);
  private static final String NAME = "Dinner";

  private ReadmeTests() {}

  static void readmeLinesOfJavaDoWhatTheySay() throws IOException, ReflectiveOperationException {
    StringBuilder lines = new StringBuilder();
    StringBuilder methods = new StringBuilder();
    Matcher block = BLOCK.matcher(Files.readString(README));
    while (block.find()) {
      (block.group(1).startsWith("static ") ? methods : lines).append(block.group(1));
    }
    Matcher promise = PROMISE.matcher(lines);
    Kit.due("promises were found", promise.results().count() > 20, true);
    run("public final class " + NAME + " {\n" + methods + "public static void main(String[] a) {\n"
        + promise.replaceAll("ReadmeTests.line(\"$2\", \"$1\", () -> $1);") + "}}\n");
  }

  /** What a line of README.md becomes. Public, as another class loader has the lines. */
  public static void line(String due, String call, Supplier<Object> line) {
    String got;
    try {
      got = "answers " + line.get();
    } catch (RuntimeException e) {
      got = "throws " + e.getClass().getSimpleName();
    }
    Kit.due(call, got, due);
  }

  private static void run(String program) throws IOException, ReflectiveOperationException {
    JavaCompiler compiler = ToolProvider.getSystemJavaCompiler();
    Path build = Files.createTempDirectory("readme");
    Path source = Files.writeString(build.resolve(NAME + ".java"), program);
    Path compiled = build.resolve(NAME + ".class");
    try (URLClassLoader loader = new URLClassLoader(new URL[] {build.toUri().toURL()})) {
      int failed = compiler.run(null, null, null, "-cp", System.getProperty("java.class.path"),
          "-d", build.toString(), source.toString());
      Kit.due("the compiler of\n" + program, failed, 0);
      loader.loadClass(NAME).getMethod("main", String[].class).invoke(null, (Object) null);
    } catch (InvocationTargetException e) {
      throw new AssertionError(e.getCause().getMessage(), e.getCause());
    } finally {
      Files.deleteIfExists(compiled);
      Files.delete(source);
      Files.delete(build);
    }
  }
}
