import java.io.IOException;
import java.lang.management.ManagementFactory;
import java.lang.reflect.Field;
import java.lang.reflect.Method;
import java.lang.reflect.Modifier;
import java.nio.charset.StandardCharsets;
import java.nio.file.Files;
import java.nio.file.Path;
import java.util.ArrayList;
import java.util.Arrays;
import java.util.List;
import java.util.regex.Matcher;
import java.util.regex.Pattern;

/** Those rules of LANGUAGE.md that a look at the source or at the compiled class can tell. */
final class LanguageTests {
  private static final String SOURCE = System.getProperty("source",
      "src/main/java/RecipeScheduler.java");
  private static final int ROUNDS = 5;
  private static final Pattern METHOD =
      Pattern.compile("^ +(?!return|new|else|throw)[\\w<>\\[\\] ]*\\b(\\w+)\\(([^()]*)\\)"
          + "(?:\\s+throws [\\w, \n]+?)? \\{$", Pattern.MULTILINE);

  private LanguageTests() {}

  private static String source() throws IOException {
    return Files.readString(Path.of(SOURCE), StandardCharsets.ISO_8859_1);
  }

  /** The source without comments, and with its texts and characters emptied. */
  private static String code() throws IOException {
    return source().replaceAll("(?s)/\\*.*?\\*/", "").replaceAll("//[^\n]*", "")
        .replaceAll("\"(\\\\.|[^\"\\\\])*\"", "\"\"").replaceAll("'(\\\\.|[^'\\\\])'", "' '");
  }

  private static List<Class<?>> classes() {
    List<Class<?>> classes = new ArrayList<>();
    classes.add(RecipeScheduler.class);
    classes.addAll(List.of(RecipeScheduler.class.getDeclaredClasses()));
    return classes;
  }

  static void ruleSourceIsAsciiWithoutAPackage() throws IOException {
    for (char c : source().toCharArray()) {
      Kit.due("a sign of the source is ASCII", c == '\n' || c >= 32 && c < 127, true);
    }
    Kit.due("a package line", code().contains("package "), false);
  }

  static void rule4ImportsAreThoseOfTheList() throws IOException {
    Matcher imports = Pattern.compile("import ([^;]*);").matcher(code());
    while (imports.find()) {
      Kit.due(imports.group(), imports.group(1).matches(
          "java\\.util\\.(Arrays|ArrayList|List|Iterator|NoSuchElementException)"), true);
    }
    Kit.due("a full name of the library", code().replaceAll("import [^;]*;", "")
        .contains("java."), false);
  }

  static void ruleForbiddenWordsAreAbsent() throws IOException {
    Matcher word = Pattern.compile("->|::|\\b(finally|synchronized|assert|catch|try|native|volatile"
        + "|var|Object|Exact|hashCode|getMessage|equals|random|nanoTime|currentTimeMillis|Thread"
        + "|File|System\\.(?!arraycopy))\\b").matcher(code());
    if (word.find()) {
      throw new AssertionError("the source has " + word.group());
    }
  }

  static void rule5StaticFieldsAreFinalConstants() {
    for (Class<?> one : classes()) {
      for (Field field : one.getDeclaredFields()) {
        if (Modifier.isStatic(field.getModifiers())) {
          Kit.due(field + " is final", Modifier.isFinal(field.getModifiers()), true);
        }
      }
    }
  }

  static void rule6ExceptionsAreThoseOfTheDocument() throws IOException {
    Matcher thrown = Pattern.compile("throw ([^;]*);").matcher(code());
    int found = 0;
    while (thrown.find()) {
      found++;
      Kit.due(thrown.group(), thrown.group(1).matches("new (IllegalArgument|IllegalState"
          + "|IndexOutOfBounds|NoSuchElement)Exception\\(\"\"\\)"), true);
    }
    Kit.due("throws were found", found > 10, true);
  }

  static void rule7ADivisorIsAConstantOrLookedAt() throws IOException {
    Matcher divisor = Pattern.compile("[/%]=? *([^;]*)").matcher(code());
    int found = 0;
    while (divisor.find()) {
      found++;
      Kit.due(divisor.group(), divisor.group(1).matches(
          "([1-9]\\d*|MAX_\\w+)\\)?|\\((float|double)\\) stepsToShareBy\\(\\)"), true);
    }
    Kit.due("divisions were found", found > 5, true);
    Kit.due("stepsToShareBy() answers 1 or more",
        code().matches("(?s).* stepsToShareBy\\(\\) \\{\\s+return Math\\.max\\(1, [^;]*;.*"), true);
  }

  static void rule7NoReferenceIsEverNull() throws IllegalAccessException {
    RecipeScheduler fresh = Kit.fresh();
    Kit.due("references were found", withoutNull(fresh, new ArrayList<>()) > 100, true);
    for (Kit.Make make : new Kit.Make[] {Kit.USED, Kit.rich(Kit.made(Kit.steps(14))), Kit.SERVED}) {
      withoutNull(make.made(), new ArrayList<>());
    }
  }

  /** Walks through all that an object of the program holds, and counts its parts. */
  private static int withoutNull(Object part, List<Object> seen) throws IllegalAccessException {
    for (Object other : seen) {
      if (other == part) {
        return 0;
      }
    }
    seen.add(part);
    int parts = 1;
    for (Object inside : references(part)) {
      Kit.due("a null in " + part.getClass().getSimpleName(), inside == null, false);
      parts += withoutNull(inside, seen);
    }
    return parts;
  }

  private static List<Object> references(Object part) throws IllegalAccessException {
    List<Object> found = new ArrayList<>();
    if (part instanceof Object[]) {
      found.addAll(Arrays.asList((Object[]) part));
    } else if (classes().contains(part.getClass())) {
      for (Field field : part.getClass().getDeclaredFields()) {
        if (!field.getType().isPrimitive()) {
          field.setAccessible(true);
          found.add(field.get(part));
        }
      }
    }
    return found;
  }

  static void rule10TextsAreNotJoinedByPlus() throws IOException {
    Kit.due("a text beside a plus", Pattern.compile("\"\\s*\\+|\\+=?\\s*\"").matcher(code()).find(),
        false);
  }

  static void rule11MethodsAreShort() throws IOException {
    Matcher method = METHOD.matcher(code());
    String code = code();
    int found = 0;
    while (method.find()) {
      if (!method.group(1).matches("if|for|while|switch|catch")) {
        found++;
        Kit.due("parameters of " + method.group(1), method.group(2).split(",").length <= 7, true);
        int depth = 1;
        int at = method.end();
        int lines = 1;
        while (depth > 0) {
          char c = code.charAt(at++);
          depth += c == '{' ? 1 : c == '}' ? -1 : 0;
          lines += c == '\n' ? 1 : 0;
        }
        Kit.due(method.group(1) + " has " + lines + " lines, at most 60", lines <= 60, true);
      }
    }
    int compiled = 0;
    for (Class<?> one : classes()) {
      compiled += one.getDeclaredConstructors().length;
      for (Method each : one.getDeclaredMethods()) {
        compiled += each.isSynthetic() || one.isEnum() ? 0 : 1;
      }
    }
    Kit.due("methods found of " + compiled, found > compiled - 8 && found <= compiled, true);
  }

  static void rule11ClassesAndFieldsAreFew() {
    Kit.due("classes", classes().size() <= 12, true);
    for (Class<?> one : classes()) {
      int fields = 0;
      for (Field field : one.getDeclaredFields()) {
        fields += Modifier.isStatic(field.getModifiers()) ? 0 : 1;
      }
      Kit.due("fields of " + one, fields <= 20, true);
    }
  }

  static void rule12CallsMakeNoObjects() {
    RecipeScheduler[] objects = new RecipeScheduler[ROUNDS];
    for (int i = 0; i < ROUNDS; i++) {
      objects[i] = new RecipeScheduler();
    }
    int[] next = new int[1];
    long made = bytesMadeBy(() -> {
      RecipeScheduler x = objects[next[0]];
      next[0]++;
      for (int i = 0; i < 16; i++) {
        manyCalls(x);
      }
      return null;
    });
    Kit.due("bytes made by 480 calls are few: " + made, made < 1000, true);
  }

  static void rule12AnObjectIsSmall() {
    long made = bytesMadeBy(RecipeScheduler::new);
    // 512 objects of some 200 parts and 3,000 elements each stay far below the room of a run.
    Kit.due("bytes made by a constructor: " + made, made < 20000, true);
  }

  /** The least of several rounds, as the machine itself may make objects in some of them. */
  private static long bytesMadeBy(Kit.Call call) {
    com.sun.management.ThreadMXBean counter =
        (com.sun.management.ThreadMXBean) ManagementFactory.getThreadMXBean();
    long thread = Thread.currentThread().getId();
    long least = Long.MAX_VALUE;
    for (int i = 0; i < ROUNDS; i++) {
      long before = counter.getThreadAllocatedBytes(thread);
      call.answer();
      least = Math.min(least, counter.getThreadAllocatedBytes(thread) - before);
    }
    return least;
  }

  private static void manyCalls(RecipeScheduler x) {
    appendSetup(x);
    x.load();
    x.append(0x73616c74, 0x20313b70, 0x61737320, 0x333b7374, 0x6f702061);
    x.append(0x3b202020, 0x20202020, 0x20202020, 0x20202020, 0x20202020);
    x.runScript();
    x.undo();
    x.save(0);
    x.pass(3);
    x.setCooks(2);
    x.setDuration(0, 9);
    x.addSalt(1);
    x.bottleneck();
    x.fewestCooks();
    x.minutesToBurn(0);
    x.statusAfter(0, 500);
    x.slack(0);
    x.readyStep(0);
    x.criticalStep(0);
    x.rootBlocker(0);
    x.blockingStep(0);
    x.stop(0);
    x.restore(0);
    x.writeSummary();
    x.outputByte(0);
    x.doneShare();
    x.meanDuration();
    x.inconsistencies();
  }

  /** "recipe 1 1 0 9;step a 60 1 hot;" */
  private static void appendSetup(RecipeScheduler x) {
    x.append(0x72656369, 0x70652031, 0x20312030, 0x20393b73, 0x74657020);
    x.append(0x61203630, 0x20312068, 0x6f743b20, 0x20202020, 0x20202020);
  }
}
