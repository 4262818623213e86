import java.nio.charset.StandardCharsets;

/** What the tests share: texts for the input buffer, and checks that end a test where they fail. */
final class Kit {
  static final String DEFAULT = "recipe 1 2 4 9;pan pot 2;pan bowl 2;step cut 3 1 in bowl;"
      + "step boil 5 2 in pot alone after cut;step fry 2 3 in pot hot;"
      + "step mix 2 1 in bowl after boil fry;step rest 4 0 alone after mix;";
  static final int CUT = 0;
  static final int BOIL = 1;
  static final int FRY = 2;
  static final int MIX = 3;
  static final int REST = 4;

  static final Class<? extends RuntimeException> BOUNDS = IndexOutOfBoundsException.class;
  static final Class<? extends RuntimeException> ARGUMENT = IllegalArgumentException.class;
  static final Class<? extends RuntimeException> STATE = IllegalStateException.class;
  static final Class<? extends RuntimeException> ELEMENT = java.util.NoSuchElementException.class;

  /** Numbers that are no step of any recipe, no slot and no pan type. */
  static final int[] NOWHERE = {-1, 14, 15, 1 << 30, Integer.MAX_VALUE, Integer.MIN_VALUE};

  interface Call {
    Object answer();
  }

  private Kit() {}

  static void due(String what, long got, long due) {
    if (got != due) {
      throw new AssertionError(what + " answered " + got + ", due is " + due);
    }
  }

  static void due(String what, boolean got, boolean due) {
    if (got != due) {
      throw new AssertionError(what + " answered " + got + ", due is " + due);
    }
  }

  static void due(String what, double got, double due) {
    if (got != due) {
      throw new AssertionError(what + " answered " + got + ", due is " + due);
    }
  }

  static void due(String what, String got, String due) {
    if (!got.equals(due)) {
      throw new AssertionError(what + " answered\n" + got + "\ndue is\n" + due);
    }
  }

  /** The call throws just this class, and nothing that can be asked has changed after it. */
  static void fails(Class<?> due, RecipeScheduler x, String what, Call call) {
    String before = face(x);
    throwsJust(due, what, call);
    due("the state after " + what, face(x), before);
  }

  static void throwsJust(Class<?> due, String what, Call call) {
    Object got;
    try {
      got = "the answer " + call.answer();
    } catch (RuntimeException e) {
      got = e.getClass();
    }
    if (!due.equals(got)) {
      throw new AssertionError(what + " gave " + got + ", due is " + due);
    }
  }

  static RecipeScheduler fresh() {
    return new RecipeScheduler();
  }

  static RecipeScheduler loaded(String setup) {
    RecipeScheduler x = fresh();
    feed(x, setup);
    x.load();
    return x;
  }

  /** Appends the text to the input buffer, filled up with spaces and cut to its length. */
  static void feed(RecipeScheduler x, String text) {
    byte[] bytes = text.getBytes(StandardCharsets.ISO_8859_1);
    int length = length(x);
    for (int at = 0; at < bytes.length; at += 20) {
      int[] words = new int[5];
      for (int i = 0; i < 20; i++) {
        int value = at + i < bytes.length ? bytes[at + i] & 255 : 32;
        words[i / 4] |= value << 24 - i % 4 * 8;
      }
      x.append(words[0], words[1], words[2], words[3], words[4]);
    }
    x.truncate(length + bytes.length);
  }

  /** The length of the input buffer, which no call tells: the greatest that truncate() takes. */
  static int length(RecipeScheduler x) {
    for (int length = 700; length > 0; length--) {
      try {
        return x.truncate(length);
      } catch (IllegalArgumentException e) {
        continue;
      }
    }
    return 0;
  }

  static int load(RecipeScheduler x, String setup) {
    feed(x, setup);
    return x.load();
  }

  static int script(RecipeScheduler x, String text) {
    feed(x, text);
    return x.runScript();
  }

  /** Checks how a setup text is refused: the code, the position, and that nothing else changed. */
  static void badSetup(String text, int code, int position) {
    RecipeScheduler x = fresh();
    feed(x, text);
    refused(x, text, code, position, x::load);
  }

  static void badScript(String text, int code, int position) {
    RecipeScheduler x = fresh();
    feed(x, text);
    refused(x, text, code, position, x::runScript);
  }

  private static void refused(RecipeScheduler x, String text, int code, int position, Call call) {
    String before = state(x);
    throwsJust(ARGUMENT, "reading \"" + text + "\"", call);
    due("the state after \"" + text + "\"", state(x), before);
    due("errorCode() of \"" + text + "\"", x.errorCode(), code);
    due("errorPosition() of \"" + text + "\"", x.errorPosition(), position);
    due("the buffer after \"" + text + "\"", length(x), 0);
  }

  static void goodSetup(String text, int steps) {
    RecipeScheduler x = fresh();
    due("load() of \"" + text + "\"", load(x, text), steps);
    due("errorCode()", x.errorCode(), 0);
    due("errorPosition()", x.errorPosition(), RecipeScheduler.NONE);
    due("stepCount()", x.stepCount(), steps);
  }

  static String summary(RecipeScheduler x) {
    StringBuilder text = new StringBuilder();
    int length = x.writeSummary();
    for (int i = 0; i < length; i++) {
      text.append((char) x.outputByte(i));
    }
    return text.toString();
  }

  static String name(RecipeScheduler x, int step) {
    StringBuilder name = new StringBuilder();
    for (int i = 0; i < 7; i++) {
      try {
        name.append((char) x.nameLetter(step, i));
      } catch (IndexOutOfBoundsException e) {
        break;
      }
    }
    return name.toString();
  }

  /** All that can be asked without changing anything. */
  static String face(RecipeScheduler x) {
    return state(x) + "errors " + x.errorCode() + " " + x.errorPosition() + " buffer " + length(x)
        + "\n";
  }

  /** What the recipe and its progress answer, the undo history and the saved states aside. */
  static String state(RecipeScheduler x) {
    StringBuilder text = new StringBuilder();
    int[] whole = {x.stepCount(), x.cooks(), x.minute(), x.salt(), x.taste(), x.starts(),
        x.completions(), x.burns(), x.cookMinutes(), x.whyNotServed(), x.minutesToFinish(),
        x.fewestCooks(), x.saltNeeded(), x.inconsistencies(), x.readyStep(0), x.criticalStep(1)};
    for (int value : whole) {
      text.append(value).append(' ');
    }
    for (int pan = 0; pan < 4; pan++) {
      try {
        text.append(x.panCapacity(pan)).append('/').append(x.pansInUse(pan)).append(' ');
      } catch (IndexOutOfBoundsException e) {
        break;
      }
    }
    for (int s = 0; s < x.stepCount(); s++) {
      text.append('\n').append(name(x, s)).append(' ');
      int[] of = {x.duration(s), x.stepTaste(s), x.panType(s), x.isHot(s) ? 1 : 0,
          x.isUnattended(s) ? 1 : 0, x.predecessor(s, 0), x.predecessor(s, 1), x.predecessor(s, 2),
          x.predecessor(s, 3), x.successorCount(s), x.pathLength(s), x.slack(s), x.status(s),
          x.remaining(s), x.age(s), x.startsOf(s), x.isTakenUp(s) ? 1 : 0, x.whyNotRunning(s),
          x.blockingStep(s), x.rootBlocker(s)};
      for (int value : of) {
        text.append(value).append(' ');
      }
    }
    return text.append('\n').toString();
  }
}
