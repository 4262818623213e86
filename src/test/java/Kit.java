import java.nio.charset.StandardCharsets;
import java.util.function.IntFunction;

/** What the tests share: texts for the input buffer, and checks that end a test where they fail. */
final class Kit {
  static final String DEFAULT = "recipe 1 2 4 9;pan pot 2;pan bowl 2;step cut 3 1 in bowl;"
      + "step boil 5 2 in pot alone after cut;step fry 2 3 in pot hot;"
      + "step mix 2 1 in bowl after boil fry;step rest 4 0 alone after mix;";
  static final int CUT = 0;
  static final int BOIL = 1;
  static final int FRY = 2;
  static final int MIX = 3;
  static final int REST = 4;

  static final Class<? extends RuntimeException> BOUNDS = IndexOutOfBoundsException.class;
  static final Class<? extends RuntimeException> ARGUMENT = IllegalArgumentException.class;
  static final Class<? extends RuntimeException> STATE = IllegalStateException.class;
  static final Class<? extends RuntimeException> ELEMENT = java.util.NoSuchElementException.class;

  /** Numbers that are no step of any recipe, no slot and no pan type. */
  static final int[] NOWHERE = {-1, 14, 15, 1 << 30, Integer.MAX_VALUE, Integer.MIN_VALUE};

  static final Make NEW = RecipeScheduler::new;
  /** The dish of the first recipe, with taste 7 of 4 to 9, all done and not yet served. */
  static final Make FINISHED = NEW.then(x -> x.pass(17));
  static final Make SERVED = FINISHED.then(RecipeScheduler::serve);
  /** Seven changes, of which six can be undone, two saved states, an output text and an error. */
  static final Make USED = NEW.then(x -> x.pass(4), x -> x.save(0), x -> x.addSalt(2),
      x -> x.pass(3), x -> x.save(1), x -> x.setDuration(REST, 7), x -> x.setCooks(2),
      x -> x.stop(BOIL), RecipeScheduler::writeSummary, x -> x.pass(1),
      x -> mistake(x, "pass 1;stop cu;"));

  private static String heldByUsed;

  interface Call {
    Object answer();
  }

  interface Act {
    Object on(RecipeScheduler x);
  }

  interface ActOf {
    Object on(RecipeScheduler x, int value);
  }

  /** Makes an object, and always the same one: some questions change what they ask for. */
  interface Make {
    RecipeScheduler made();

    default Make then(Act... calls) {
      return () -> {
        RecipeScheduler x = made();
        for (Act call : calls) {
          call.on(x);
        }
        return x;
      };
    }

    default Make fed(String text) {
      return () -> {
        RecipeScheduler x = made();
        feed(x, text);
        return x;
      };
    }
  }

  private Kit() {}

  static void due(String what, long got, long due) {
    if (got != due) {
      throw new AssertionError(what + " answered " + got + ", due is " + due);
    }
  }

  static void due(String what, boolean got, boolean due) {
    if (got != due) {
      throw new AssertionError(what + " answered " + got + ", due is " + due);
    }
  }

  static void due(String what, double got, double due) {
    if (got != due) {
      throw new AssertionError(what + " answered " + got + ", due is " + due);
    }
  }

  static void due(String what, String got, String due) {
    if (!got.equals(due)) {
      throw new AssertionError(what + " answered\n" + got + "\ndue is\n" + due);
    }
  }

  /** The call throws just this class, no class above or below it. */
  static void throwsJust(Class<?> due, String what, Call call) {
    Object got;
    try {
      got = "the answer " + call.answer();
    } catch (RuntimeException e) {
      got = e.getClass();
    }
    if (!due.equals(got)) {
      throw new AssertionError(what + " gave " + got + ", due is " + due);
    }
  }

  /** For several values of an argument the call throws just this class and changes nothing. */
  static void refuses(Class<?> due, Make make, String what, int[] values, ActOf call) {
    String before = held(make);
    for (int value : values) {
      String text = what + " of " + value;
      throwsJust(due, text, () -> call.on(make.made(), value));
      due("what is held after " + text, held(make.then(x -> refused(x, y -> call.on(y, value)))),
          before);
    }
  }

  static void refuses(Class<?> due, Make make, String what, Act call) {
    refuses(due, make, what, new int[1], (x, none) -> call.on(x));
  }

  /** Of 1, 5 and 14 steps each is answered as is due, and the numbers next to them are refused. */
  static void answersStepsThatExist(String what, ActOf call, IntFunction<Object> due) {
    for (int count : new int[] {1, 5, 14}) {
      Make make = rich(made(steps(count)));
      for (int step = 0; step < count; step++) {
        due(what + " of " + step, "" + call.on(make.made(), step), "" + due.apply(step));
      }
      refuses(BOUNDS, make, what, around(count), call);
    }
  }

  /** Numbers that nothing has which is counted so far from 0; some are one of them to a shift. */
  static int[] around(int count) {
    return new int[] {-1, count, count + 1, 31, 32, -32, 1 << 30, Integer.MAX_VALUE,
        Integer.MIN_VALUE};
  }

  /** The call is tried and its exception dropped. */
  static Object refused(RecipeScheduler x, Act call) {
    try {
      return call.on(x);
    } catch (RuntimeException e) {
      return e;
    }
  }

  private static Object mistake(RecipeScheduler x, String script) {
    feed(x, script);
    return refused(x, RecipeScheduler::runScript);
  }

  static RecipeScheduler fresh() {
    return new RecipeScheduler();
  }

  static Make made(String setup) {
    return () -> loaded(setup);
  }

  /** Steps each after the one ahead of it, and all of them equally long. */
  static String chain(int count, int duration) {
    StringBuilder text = new StringBuilder("recipe 1 0 0 99;");
    for (int step = 0; step < count; step++) {
      text.append("step ").append((char) ('a' + step)).append(' ').append(duration).append(" 1");
      text.append(step == 0 ? "" : " after " + (char) ('a' + step - 1)).append(';');
    }
    return text.toString();
  }

  /** Steps of 1 minute that all follow the first one. */
  static String fan(int count) {
    return chain(count, 1).replaceAll("after \\w", "after a");
  }

  /** Steps one after the other by the only cook, which are done after one minute more. */
  static String row(int... durations) {
    StringBuilder text = new StringBuilder("recipe 1 30 0 99;");
    for (int i = 0; i < durations.length; i++) {
      text.append("step ").append((char) ('a' + i)).append(' ').append(durations[i]).append(" 1;");
    }
    return text.toString();
  }

  static Make atMinute(int minute, Make make) {
    return make.then(x -> {
      for (int left = minute - x.minute(); left > 0; left -= 200) {
        x.pass(Math.min(200, left));
      }
      return null;
    });
  }

  /** The object then has something to undo and to restore, an output text, an error and a text. */
  static Make rich(Make make) {
    return make.then(x -> x.setCooks(2), x -> x.save(0), x -> x.setCooks(3), x -> x.setCooks(4),
        x -> x.setCooks(1), x -> x.setCooks(3), x -> x.setCooks(2), x -> x.save(1),
        x -> x.setCooks(4), RecipeScheduler::writeSummary, x -> mistake(x, "cooks 1;cooks;"))
        .fed("cooks 3;pass 1;salt 2;");
  }

  /** A recipe of steps that follow nothing: step 0 is called a and takes 1 minute, and so on. */
  static String steps(int count) {
    StringBuilder text = new StringBuilder("recipe 4 0 0 99;");
    for (int step = 0; step < count; step++) {
      text.append("step ").append((char) ('a' + step)).append(' ').append(step + 1).append(' ')
          .append(step % 10).append(';');
    }
    return text.toString();
  }

  static RecipeScheduler loaded(String setup) {
    RecipeScheduler x = fresh();
    feed(x, setup);
    x.load();
    return x;
  }

  /** Appends the text to the input buffer, filled up with spaces and cut to its length. */
  static void feed(RecipeScheduler x, String text) {
    byte[] bytes = text.getBytes(StandardCharsets.ISO_8859_1);
    int length = length(x);
    for (int at = 0; at < bytes.length; at += 20) {
      int[] words = new int[5];
      for (int i = 0; i < 20; i++) {
        int value = at + i < bytes.length ? bytes[at + i] & 255 : 32;
        words[i / 4] |= value << 24 - i % 4 * 8;
      }
      x.append(words[0], words[1], words[2], words[3], words[4]);
    }
    x.truncate(length + bytes.length);
  }

  /** The length of the input buffer, which no call tells alone: 20 bytes more are cut off again. */
  static int length(RecipeScheduler x) {
    try {
      return x.truncate(x.append(0, 0, 0, 0, 0) - 20);
    } catch (IllegalStateException e) {
      return fullLength(x);
    }
  }

  private static int fullLength(RecipeScheduler x) {
    for (int length = 700; length > 680; length--) {
      try {
        return x.truncate(length);
      } catch (IllegalArgumentException e) {
        continue;
      }
    }
    throw new AssertionError("append() refused a buffer of at most 680 bytes");
  }

  static int load(RecipeScheduler x, String setup) {
    feed(x, setup);
    return x.load();
  }

  static int script(RecipeScheduler x, String text) {
    feed(x, text);
    return x.runScript();
  }

  /** Checks how a setup text is refused: the code, the position, and that nothing else changed. */
  static void badSetup(String text, int code, int position) {
    refusesText(RecipeScheduler::load, text, code, position);
  }

  static void badScript(String text, int code, int position) {
    refusesText(RecipeScheduler::runScript, text, code, position);
  }

  /** The same for an error at the mark '^', which is taken out of the text. */
  static void badSetup(int code, String marked) {
    badSetup(marked.replace("^", ""), code, marked.indexOf('^'));
  }

  static void badScript(int code, String marked) {
    badScript(marked.replace("^", ""), code, marked.indexOf('^'));
  }

  private static void refusesText(Act read, String text, int code, int position) {
    throwsJust(ARGUMENT, "reading \"" + text + "\"", () -> read.on(USED.fed(text).made()));
    Make after = USED.fed(text).then(x -> refused(x, read));
    RecipeScheduler x = after.made();
    due("errorCode() of \"" + text + "\"", x.errorCode(), code);
    due("errorPosition() of \"" + text + "\"", x.errorPosition(), position);
    due("the buffer after \"" + text + "\"", length(x), 0);
    if (heldByUsed == null) {
      heldByUsed = lasting(USED);
    }
    due("what is held after \"" + text + "\"", lasting(after), heldByUsed);
  }

  static void goodSetup(String text, int steps) {
    RecipeScheduler x = fresh();
    due("load() of \"" + text + "\"", load(x, text), steps);
    due("errorCode()", x.errorCode(), 0);
    due("errorPosition()", x.errorPosition(), RecipeScheduler.NONE);
    due("stepCount()", x.stepCount(), steps);
  }

  static String summary(RecipeScheduler x) {
    StringBuilder text = new StringBuilder();
    int length = x.writeSummary();
    for (int i = 0; i < length; i++) {
      text.append((char) x.outputByte(i));
    }
    return text.toString();
  }

  static String name(RecipeScheduler x, int step) {
    StringBuilder name = new StringBuilder();
    for (int i = 0; i < 7; i++) {
      try {
        name.append((char) x.nameLetter(step, i));
      } catch (IndexOutOfBoundsException e) {
        break;
      }
    }
    return name.toString();
  }

  /** All that an object holds. */
  static String held(Make make) {
    return face(make.made()) + lasting(make) + reading(make, "findStep", RecipeScheduler::findStep)
        + reading(make, "load", RecipeScheduler::load)
        + reading(make, "runScript", RecipeScheduler::runScript);
  }

  /** What the input buffer holds shows in what reading it does. */
  private static String reading(Make make, String what, Act read) {
    RecipeScheduler x = make.made();
    return what + " " + refused(x, read) + "\n" + face(x);
  }

  /** All that an object holds but the input buffer and the error of the latest text. */
  static String lasting(Make make) {
    StringBuilder all = new StringBuilder(state(make.made()));
    all.append("output ").append(output(make.made())).append('\n');
    for (int changes = 1; changes <= 7; changes++) {
      RecipeScheduler x = make.made();
      Object left = null;
      for (int i = 0; i < changes; i++) {
        left = refused(x, RecipeScheduler::undo);
      }
      all.append("undo ").append(left).append(' ').append(state(x));
    }
    for (int i = 0; i < 2; i++) {
      int slot = i;
      RecipeScheduler x = make.made();
      all.append("restore ").append(refused(x, y -> y.restore(slot))).append(' ').append(state(x));
    }
    return all.toString();
  }

  private static String output(RecipeScheduler x) {
    StringBuilder text = new StringBuilder();
    for (int i = 0; i < 126; i++) {
      int index = i;
      Object answer = refused(x, y -> y.outputByte(index));
      if (!(answer instanceof Integer)) {
        break;
      }
      text.append((char) (int) answer);
    }
    return text.toString();
  }

  /** All that can be asked without changing anything. */
  static String face(RecipeScheduler x) {
    return state(x) + "errors " + x.errorCode() + " " + x.errorPosition() + " buffer " + length(x)
        + "\n";
  }

  /** What the recipe and its progress answer, the undo history and the saved states aside. */
  static String state(RecipeScheduler x) {
    StringBuilder text = new StringBuilder();
    int[] whole = {x.stepCount(), x.cooks(), x.minute(), x.salt(), x.taste(), x.starts(),
        x.completions(), x.burns(), x.cookMinutes(), x.whyNotServed(), x.minutesToFinish(),
        x.fewestCooks(), x.saltNeeded(), x.inconsistencies(), x.readyStep(0), x.criticalStep(1)};
    for (int value : whole) {
      text.append(value).append(' ');
    }
    for (int pan = 0; pan < 4; pan++) {
      try {
        text.append(x.panCapacity(pan)).append('/').append(x.pansInUse(pan)).append(' ');
      } catch (IndexOutOfBoundsException e) {
        break;
      }
    }
    for (int s = 0; s < x.stepCount(); s++) {
      text.append('\n').append(name(x, s)).append(' ');
      int[] of = {x.duration(s), x.stepTaste(s), x.panType(s), x.isHot(s) ? 1 : 0,
          x.isUnattended(s) ? 1 : 0, x.predecessor(s, 0), x.predecessor(s, 1), x.predecessor(s, 2),
          x.predecessor(s, 3), x.successorCount(s), x.pathLength(s), x.slack(s), x.status(s),
          x.remaining(s), x.age(s), x.startsOf(s), x.isTakenUp(s) ? 1 : 0, x.whyNotRunning(s),
          x.blockingStep(s), x.rootBlocker(s), x.isHot(s) ? x.minutesToBurn(s) : 0};
      for (int value : of) {
        text.append(value).append(' ');
      }
    }
    return text.append('\n').toString();
  }
}
