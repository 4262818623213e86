import java.lang.reflect.InvocationTargetException;
import java.lang.reflect.Method;
import java.util.TreeSet;

/**
 * Runs every static method of the test classes whose name begins with "promise" and the number
 * of the promise that it tests, with "terms", with "rule" or with "readme".
 */
public final class AllTests {
  private static final int PROMISES = 64;
  static final Class<?>[] TESTS = {
      InputTests.class, SetupTextTests.class, ScriptTextTests.class, RecipeTests.class,
      ProgressTests.class, MinuteTests.class, ForecastTests.class, ChangeTests.class,
      UndoTests.class, FaceTests.class, ModelTests.class, LanguageTests.class, ReadmeTests.class,
      RecipeTermsBoundaries.class, ProgressTermsBoundaries.class, MinuteTermsBoundaries.class,
      TextBoundaries.class, ErrorBoundaries.class, StateTermsBoundaries.class,
      InputBoundaries.class, RecipeBoundaries.class, ProgressBoundaries.class,
      ForecastBoundaries.class, ChangeBoundaries.class, SavedBoundaries.class,
      SentenceTests.class};

  private static int passed;
  private static int failed;
  private static final TreeSet<Integer> TESTED = new TreeSet<>();

  private AllTests() {}

  public static void main(String[] arguments) throws IllegalAccessException {
    for (Class<?> tests : TESTS) {
      for (Method test : tests.getDeclaredMethods()) {
        if (test.getName().matches("(promise|terms|rule|readme).*")) {
          run(test);
        }
      }
    }
    for (int promise = 1; promise <= PROMISES; promise++) {
      if (!TESTED.contains(promise)) {
        failed++;
        System.out.println("promise " + promise + " has no test");
      }
    }
    System.out.println("own tests: " + passed + " passed, " + failed + " failed");
    System.exit(failed == 0 ? 0 : 1);
  }

  private static void run(Method test) throws IllegalAccessException {
    if (test.getName().startsWith("promise")) {
      TESTED.add(Integer.valueOf(test.getName().replaceAll("promise(\\d+).*", "$1")));
    }
    try {
      test.invoke(null);
      passed++;
    } catch (InvocationTargetException e) {
      failed++;
      System.out.println(test.getDeclaringClass().getName() + "." + test.getName() + ": "
          + e.getCause());
      for (StackTraceElement at : e.getCause().getStackTrace()) {
        if (!at.getClassName().startsWith("java.") && !at.getClassName().startsWith("jdk.")) {
          System.out.println("  at " + at);
        }
      }
    }
  }
}
