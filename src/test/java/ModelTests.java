import java.lang.reflect.InvocationTargetException;
import java.lang.reflect.Method;
import java.util.ArrayList;
import java.util.Collections;
import java.util.Comparator;
import java.util.List;
import java.util.Random;

/** Long runs of calls with fixed seeds: the program and the model answer every call alike. */
final class ModelTests {
  /** What an object answers after so many calls is free. */
  private static final int MAX_CALLS = 512;
  private static final int[] EDGES = {-1, 0, 1, 2, 13, 14, 60, 61, 200, 201, 500, 501, -9, -10,
      Integer.MIN_VALUE, Integer.MAX_VALUE};
  private static final String[] WORDS = {"recipe", "pan", "step", "in", "hot", "alone", "after",
      "pass", "salt", "water", "stop", "redo", "cooks", "time", "serve", "cut", "abcdef",
      "abcdefg", "abcdefgh", "abcdefghi", ";", "0", "1", "5", "31", "100", "1000", "?", "\t",
      "\u00e9", "a", "b", "c", "d", "p", "q"};

  private ModelTests() {}

  private static final class Pair {
    private final RecipeScheduler program = new RecipeScheduler();
    private final Model model = new Model();
    private final StringBuilder calls = new StringBuilder();
    private int callCount;

    boolean isUsedUp() {
      return callCount >= MAX_CALLS;
    }

    /** Compares the two answers, if the document promises one. */
    String call(String name, Object... arguments) throws IllegalAccessException {
      if (isUsedUp()) {
        return "";
      }
      callCount++;
      Class<?>[] types = new Class<?>[arguments.length];
      StringBuilder text = new StringBuilder(name).append('(');
      for (int i = 0; i < types.length; i++) {
        types[i] = int.class;
        text.append(i == 0 ? "" : ", ").append(arguments[i]);
      }
      text.append(')');
      String due = answer(model, name, types, arguments);
      String got = answer(program, name, types, arguments);
      calls.append(text).append(" -> ").append(due).append('\n');
      if (!got.equals(due)) {
        throw new AssertionError(calls + "but the program answered " + got);
      }
      return got;
    }

    private static String answer(Object on, String name, Class<?>[] types, Object[] arguments)
        throws IllegalAccessException {
      try {
        return String.valueOf(on.getClass().getMethod(name, types).invoke(on, arguments));
      } catch (InvocationTargetException e) {
        return e.getCause().getClass().getName();
      } catch (NoSuchMethodException e) {
        throw new AssertionError(e);
      }
    }

    void feed(String text) throws IllegalAccessException {
      call("truncate", 0);
      for (int at = 0; at < text.length(); at += 20) {
        Object[] words = new Object[5];
        for (int i = 0; i < 5; i++) {
          int word = 0;
          for (int j = 0; j < 4; j++) {
            int place = at + i * 4 + j;
            word = word << 8 | (place < text.length() ? text.charAt(place) : ' ');
          }
          words[i] = word;
        }
        call("append", words);
      }
      call("truncate", text.length());
    }
  }

  private static List<Method> methods() {
    List<Method> methods = new ArrayList<>();
    for (Method method : RecipeScheduler.class.getDeclaredMethods()) {
      if (java.lang.reflect.Modifier.isPublic(method.getModifiers())) {
        methods.add(method);
      }
    }
    methods.sort(Comparator.comparing(Method::getName));
    return methods;
  }

  private static String setup(Random random) {
    StringBuilder text = new StringBuilder("recipe ");
    int low = random.nextInt(20);
    text.append(1 + random.nextInt(4)).append(' ').append(random.nextInt(4)).append(' ')
        .append(low).append(' ').append(low + random.nextInt(60)).append(';');
    int pans = random.nextInt(5);
    for (int i = 0; i < pans; i++) {
      text.append("pan ").append((char) ('p' + i)).append(' ')
          .append(1 + random.nextInt(random.nextInt(3) == 0 ? 5 : 2)).append(";");
    }
    int steps = 1 + random.nextInt(14);
    int longest = 1 + random.nextInt(random.nextInt(8) == 0 ? 60 : 8);
    for (int i = 0; i < steps; i++) {
      text.append("step ").append((char) ('a' + i)).append(' ')
          .append(1 + random.nextInt(longest)).append(' ').append(random.nextInt(10));
      if (pans > 0 && random.nextInt(3) > 0) {
        text.append(" in ").append((char) ('p' + random.nextInt(pans)));
      }
      text.append(random.nextInt(3) == 0 ? " hot" : "");
      text.append(random.nextInt(4) == 0 ? " alone" : "");
      String after = "";
      for (int j = 0; j < i && after.length() < 8; j++) {
        after = random.nextInt(Math.max(2, i - 1)) == 0 ? " " + (char) ('a' + j) + after : after;
      }
      text.append(after.isEmpty() ? "" : " after").append(after).append(";");
    }
    return text.toString();
  }

  private static String script(Random random) {
    StringBuilder text = new StringBuilder();
    int commands = random.nextInt(random.nextInt(5) == 0 ? 33 : 6);
    for (int i = 0; i < commands; i++) {
      String step = " " + (char) ('a' + random.nextInt(8));
      switch (random.nextInt(9)) {
        case 0 -> text.append("salt ").append(1 + random.nextInt(9));
        case 1 -> text.append("water ").append(1 + random.nextInt(9));
        case 2 -> text.append("stop").append(step);
        case 3 -> text.append("redo").append(step);
        case 4 -> text.append("cooks ").append(1 + random.nextInt(4));
        case 5 -> text.append("time").append(step).append(' ').append(1 + random.nextInt(9));
        case 6 -> text.append(random.nextInt(4) == 0 ? "serve" : "pass 2");
        default -> text.append("pass ").append(1 + random.nextInt(5));
      }
      text.append(";");
    }
    return text.toString();
  }

  /** Puts a word or a byte in, takes one out, or cuts the text off. */
  private static String spoil(Random random, String text) {
    StringBuilder spoilt = new StringBuilder(text);
    int at = random.nextInt(text.length() + 1);
    switch (random.nextInt(6)) {
      case 0 -> spoilt.setLength(at);
      case 1 -> spoilt.delete(at, Math.min(text.length(), at + 1 + random.nextInt(3)));
      case 2 -> spoilt.insert(at, (char) random.nextInt(256));
      default -> {
        int space = Math.max(text.indexOf(' ', at), text.indexOf(';', at));
        String word = WORDS[random.nextInt(WORDS.length)];
        if (space >= 0 && random.nextBoolean()) {
          int end = space + 1;
          while (end < text.length() && " ;".indexOf(text.charAt(end)) < 0) {
            end++;
          }
          spoilt.replace(space + 1, end, word);
        } else {
          spoilt.insert(Math.max(0, space), " " + word + " ");
        }
      }
    }
    return spoilt.length() > 700 ? spoilt.substring(0, 700) : spoilt.toString();
  }

  private static Object argument(Random random, int steps) {
    return switch (random.nextInt(8)) {
      case 0 -> EDGES[random.nextInt(EDGES.length)];
      case 1, 2 -> 1 + random.nextInt(9);
      default -> random.nextInt(steps);
    };
  }

  private static void anyCall(Pair pair, Random random, List<Method> methods)
      throws IllegalAccessException {
    Method method = methods.get(random.nextInt(methods.size()));
    if (method.getName().matches("load|append") && random.nextInt(10) > 0) {
      return;
    }
    int steps = pair.model.stepCount();
    Object[] arguments = new Object[method.getParameterCount()];
    for (int i = 0; i < arguments.length; i++) {
      arguments[i] = argument(random, steps);
    }
    pair.call(method.getName(), arguments);
  }

  private static void anyChange(Pair pair, Random random) throws IllegalAccessException {
    int step = random.nextInt(pair.model.stepCount());
    switch (random.nextInt(11)) {
      case 0 -> pair.call("addSalt", random.nextInt(19) - 9);
      case 1 -> pair.call("stop", step);
      case 2 -> pair.call("redo", step);
      case 3 -> pair.call("setCooks", 1 + random.nextInt(4));
      case 4 -> pair.call("setDuration", step, 1 + random.nextInt(9));
      case 5 -> pair.call("undo");
      case 6 -> pair.call(random.nextBoolean() ? "save" : "restore", random.nextInt(2));
      case 7 -> {
        pair.feed(script(random));
        pair.call("runScript");
      }
      case 8 -> {
        int needed = pair.model.saltNeeded();
        pair.call("addSalt", Math.max(-9, Math.min(9, needed)));
        pair.call("serve");
      }
      default -> pair.call("pass", 1 + random.nextInt(random.nextInt(4) == 0 ? 30 : 4));
    }
  }

  private static void everyQuestion(Pair pair, Random random, List<Method> methods)
      throws IllegalAccessException {
    List<Method> shuffled = new ArrayList<>(methods);
    Collections.shuffle(shuffled, random);
    for (Method method : shuffled) {
      boolean asks = !method.getName().matches("append|truncate|load|pass|addSalt|stop|redo"
          + "|setCooks|setDuration|serve|runScript|undo|save|restore|writeSummary");
      if (asks && method.getParameterCount() == 0) {
        pair.call(method.getName());
      } else if (asks && method.getParameterCount() == 1) {
        for (int i = -1; i <= pair.model.stepCount(); i++) {
          pair.call(method.getName(), i);
        }
      }
    }
  }

  static void termsRunsOfChangesAndQuestions() throws IllegalAccessException {
    List<Method> methods = methods();
    for (int seed = 0; seed < 400; seed++) {
      Random random = new Random(seed);
      Pair pair = new Pair();
      if (seed % 10 > 0) {
        pair.feed(setup(random));
        pair.call("load");
      }
      while (!pair.isUsedUp()) {
        anyChange(pair, random);
        anyCall(pair, random, methods);
        pair.call("writeSummary");
      }
    }
  }

  static void termsQuestionsAfterSomeChanges() throws IllegalAccessException {
    List<Method> methods = methods();
    for (int seed = 20000; seed < 20400; seed++) {
      Random random = new Random(seed);
      Pair pair = new Pair();
      pair.feed(setup(random));
      pair.call("load");
      for (int i = random.nextInt(25); i > 0; i--) {
        anyChange(pair, random);
      }
      pair.call("writeSummary");
      for (int i = -1; i <= pair.model.stepCount() * 9; i += 3) {
        pair.call("outputByte", i);
      }
      everyQuestion(pair, random, methods);
    }
  }

  static void termsSpoiltSetups() throws IllegalAccessException {
    for (int seed = 2000; seed < 8000; seed++) {
      Random random = new Random(seed);
      Pair pair = new Pair();
      String text = setup(random);
      for (int i = random.nextInt(3); i >= 0; i--) {
        text = spoil(random, text);
      }
      pair.feed(text);
      pair.call("load");
      pair.call("errorCode");
      pair.call("errorPosition");
      pair.call("stepCount");
      pair.call("minutesToFinish");
    }
  }

  static void termsSpoiltScripts() throws IllegalAccessException {
    for (int seed = 8000; seed < 12000; seed++) {
      Random random = new Random(seed);
      Pair pair = new Pair();
      String text = script(random).replace(" a", " cut").replace(" b", " fry");
      for (int i = random.nextInt(3); i >= 0; i--) {
        text = spoil(random, text);
      }
      pair.feed(text);
      pair.call("runScript");
      pair.call("errorCode");
      pair.call("errorPosition");
      pair.call("writeSummary");
      pair.call("salt");
      pair.call("minute");
    }
  }
}
