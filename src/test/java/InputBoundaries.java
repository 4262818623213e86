/** Promises 1 to 6 at their limits: a new object, the input buffer and the errors of a text. */
final class InputBoundaries {
  private static final int NONE = RecipeScheduler.NONE;
  private static final String LOADED = "A valid setup replaces the whole recipe, sets the current "
      + "minute, the salt and all counters to 0, discards the saved states, and clears the undo "
      + "history.";
  private static final String PARSES = "Parses the input buffer as a setup text and empties the "
      + "buffer, also if the text has an error.";
  private static final String CODES =
      "Returns 1 to 5; 0 if that text had no error or there was no such call.";
  private static final String POSITIONS = "Returns the position in the text; NONE if that text had "
      + "no error or there was no such call.";
  /** A faulty setup text for each code from 1, with the error at the mark. */
  private static final String[] FAULTY = {"recipe 1 0 0^;", "recipe 1 0 9 ^8;",
      "recipe 1 0 0 9;step a 1 1 in ^p;",
      "recipe 1 0 0 9;step a 1 1;step b 1 1;step c 1 1 after a b ^a;",
      Kit.steps(14) + "^step o 1 1;"};

  private InputBoundaries() {}

  @Sentence("Creates the recipe of the setup text \"" + Kit.DEFAULT + "\".")
  static void promise1TheRecipeOfANewObject() {
    RecipeScheduler x = Kit.fresh();
    Kit.due("a new object", Kit.held(Kit.NEW),
        Kit.held(Kit.NEW.then(y -> y.setCooks(4)).fed(Kit.DEFAULT).then(RecipeScheduler::load)));
    int[][] due = {{3, 1, 1, NONE, NONE}, {5, 2, 0, 0, NONE}, {2, 3, 0, NONE, NONE},
        {2, 1, 1, 1, 2}, {4, 0, NONE, 3, NONE}};
    String[] names = {"cut", "boil", "fry", "mix", "rest"};
    Kit.due("stepCount()", x.stepCount(), 5);
    for (int step = 0; step < 5; step++) {
      Kit.due("name", Kit.name(x, step), names[step]);
      Kit.due("duration", x.duration(step), due[step][0]);
      Kit.due("stepTaste", x.stepTaste(step), due[step][1]);
      Kit.due("panType", x.panType(step), due[step][2]);
      Kit.due("predecessor 0", x.predecessor(step, 0), due[step][3]);
      Kit.due("predecessor 1", x.predecessor(step, 1), due[step][4]);
      Kit.due("isHot", x.isHot(step), step == Kit.FRY);
      Kit.due("isUnattended", x.isUnattended(step), step == Kit.BOIL || step == Kit.REST);
    }
    Kit.due("panCapacity(0)", x.panCapacity(0), 2);
    Kit.due("panCapacity(1)", x.panCapacity(1), 2);
    Kit.throwsJust(Kit.BOUNDS, "panCapacity(2)", () -> x.panCapacity(2));
  }

  @Sentence("Creates the recipe of the setup text \"" + Kit.DEFAULT + "\".")
  static void promise1TheLimitsOfANewObject() {
    RecipeScheduler x = Kit.fresh();
    Kit.due("cooks()", x.cooks(), 1);
    // Fry is done in minute 6, and the third minute of its age exceeds the hold limit of 2.
    Kit.due("minutesToBurn(FRY)", x.minutesToBurn(Kit.FRY), 9);
    Kit.due("whyNotServed() at 4", Kit.FINISHED.then(y -> y.addSalt(-3)).made().whyNotServed(), 0);
    Kit.due("whyNotServed() at 3", Kit.FINISHED.then(y -> y.addSalt(-4)).made().whyNotServed(), 4);
    Kit.due("whyNotServed() at 9", Kit.FINISHED.then(y -> y.addSalt(2)).made().whyNotServed(), 0);
    Kit.due("whyNotServed() at 10", Kit.FINISHED.then(y -> y.addSalt(3)).made().whyNotServed(), 5);
  }

  @Sentence("The input buffer is empty and nothing is saved.")
  static void promise1NothingIsInTheBufferOrSaved() {
    Kit.due("append()", Kit.fresh().append(0, 0, 0, 0, 0), 20);
    Kit.refuses(Kit.ARGUMENT, Kit.NEW, "truncate(1)", x -> x.truncate(1));
    Kit.due("truncate(0)", Kit.fresh().truncate(0), 0);
    Kit.refuses(Kit.STATE, Kit.NEW, "restore(0)", x -> x.restore(0));
    Kit.refuses(Kit.STATE, Kit.NEW, "restore(1)", x -> x.restore(1));
    Kit.refuses(Kit.STATE, Kit.NEW, "undo()", RecipeScheduler::undo);
    Kit.refuses(Kit.BOUNDS, Kit.NEW, "outputByte(0)", x -> x.outputByte(0));
  }

  /** Puts a question mark at one of 20 bytes, the others being spaces, and finds it there. */
  private static void markedByte(int place) {
    int[] words = new int[5];
    for (int i = 1; i <= 20; i++) {
      words[(i - 1) / 4] = words[(i - 1) / 4] << 8 | (i == place ? '?' : ' ');
    }
    RecipeScheduler x = Kit.fresh();
    Kit.due("append()", x.append(words[0], words[1], words[2], words[3], words[4]), 20);
    Kit.throwsJust(Kit.ARGUMENT, "runScript()", x::runScript);
    Kit.due("errorPosition() of byte " + place, x.errorPosition(), place - 1);
  }

  @Sentence("`a`: bytes 1 to 4")
  static void promise2TheFirstAndLastByteOfA() {
    markedByte(1);
    markedByte(4);
  }

  @Sentence("`b`: bytes 5 to 8")
  static void promise2TheFirstAndLastByteOfB() {
    markedByte(5);
    markedByte(8);
  }

  @Sentence("`c`: bytes 9 to 12")
  static void promise2TheFirstAndLastByteOfC() {
    markedByte(9);
    markedByte(12);
  }

  @Sentence("`d`: bytes 13 to 16")
  static void promise2TheFirstAndLastByteOfD() {
    markedByte(13);
    markedByte(16);
  }

  @Sentence("`e`: bytes 17 to 20")
  static void promise2TheFirstAndLastByteOfE() {
    markedByte(17);
    markedByte(20);
  }

  @Sentence("Appends 20 bytes to the input buffer: the four bytes of each argument, the most "
      + "significant byte first.")
  static void promise2AllBytesInOrderWithAndWithoutTheSign() {
    // "rest" behind 16 spaces, which a script does not mind; then bytes from 128 on.
    RecipeScheduler x = Kit.fresh();
    x.append(0x20202020, 0x20202020, 0x20202020, 0x20636f6f, 0x6b732034);
    x.append(0x3b202020, 0x20202020, 0x20202020, 0x20202020, 0x20202020);
    Kit.due("runScript()", x.runScript(), 1);
    Kit.due("cooks()", x.cooks(), 4);
    int[][] marked = {{0x80202020, 0}, {0x20ff2020, 1}, {0x20208120, 2}, {0x202020fe, 3},
        {Integer.MIN_VALUE, 0}, {-1, 0}};
    for (int[] one : marked) {
      Kit.due("append()", x.append(one[0], 0, 0, 0, 0), 20);
      Kit.throwsJust(Kit.ARGUMENT, "runScript()", x::runScript);
      Kit.due("errorPosition()", x.errorPosition(), one[1]);
    }
  }

  @Sentence("Returns the new length of the buffer.")
  static void promise2LengthsFrom20To700() {
    RecipeScheduler x = Kit.fresh();
    for (int length = 20; length <= 700; length += 20) {
      Kit.due("append()", x.append(0, 0, 0, 0, 0), length);
    }
    x.truncate(1);
    Kit.due("append() to 1 byte", x.append(0, 0, 0, 0, 0), 21);
  }

  @Sentence("Throws `IllegalStateException` if the new length would exceed 700")
  static void promise2ANewLengthOf700AndNotOf701() {
    for (int length : new int[] {679, 680}) {
      Kit.due("append() to " + length, Kit.NEW.fed(" ".repeat(length)).made()
          .append(0, 0, 0, 0, 0), length + 20);
    }
    for (int length : new int[] {681, 682, 699, 700}) {
      String script = "cooks 3;" + " ".repeat(length - 16) + "salt 2;?";
      Kit.refuses(Kit.STATE, Kit.USED.fed(script), "append() to " + length,
          x -> x.append(0x20202020, 0x20202020, 0x20202020, 0x20202020, 0x20202020));
    }
  }

  @Sentence("Truncates the input buffer.")
  static void promise3TheEndIsCutOffAndTheRestStays() {
    RecipeScheduler x = Kit.fresh();
    Kit.feed(x, "boiled fry");
    x.truncate(4);
    Kit.due("findStep()", x.findStep(), Kit.BOIL);
    Kit.throwsJust(Kit.ARGUMENT, "truncate(5)", () -> x.truncate(5));
    x.truncate(0);
    Kit.feed(x, "mix");
    Kit.due("findStep()", x.findStep(), Kit.MIX);
  }

  @Sentence({"`length`: new length of the buffer, 0 to its current length",
      "Returns the new length."})
  static void promise3LengthsFrom0ToTheCurrentOne() {
    for (int current : new int[] {0, 1, 20, 699, 700}) {
      Kit.Make make = Kit.NEW.fed("x".repeat(current));
      for (int length : new int[] {0, 1, current / 2, current - 1, current}) {
        if (length >= 0 && length <= current) {
          Kit.due("truncate()", make.made().truncate(length), length);
          Kit.due("the length", Kit.length(make.then(x -> x.truncate(length)).made()), length);
        }
      }
      Kit.throwsJust(Kit.ARGUMENT, "truncate()", () -> make.made().truncate(current + 1));
      Kit.throwsJust(Kit.ARGUMENT, "truncate()", () -> make.made().truncate(-1));
    }
  }

  @Sentence("Throws `IllegalArgumentException` if length is out of range")
  static void promise3OtherLengthsAreRefused() {
    for (String text : new String[] {"", "cooks 3;", "?".repeat(700)}) {
      int length = text.length();
      Kit.refuses(Kit.ARGUMENT, Kit.USED.fed(text), "truncate",
          new int[] {-1, length + 1, -700, 701, Integer.MAX_VALUE, Integer.MIN_VALUE},
          (x, value) -> x.truncate(value));
    }
  }

  @Sentence(PARSES)
  static void promise4TheBufferIsEmptyAfterAValidText() {
    RecipeScheduler x = Kit.loaded(Kit.steps(14));
    Kit.due("the length", Kit.length(x), 0);
    Kit.feed(x, "n");
    Kit.due("findStep()", x.findStep(), 13);
  }

  @Sentence(PARSES)
  static void promise4TheBufferIsEmptyAfterAFaultyText() {
    for (String text : FAULTY) {
      RecipeScheduler x = Kit.USED.fed(text.replace("^", "")).made();
      Kit.throwsJust(Kit.ARGUMENT, "load()", x::load);
      Kit.due("the length", Kit.length(x), 0);
      Kit.feed(x, "fry");
      Kit.due("findStep()", x.findStep(), Kit.FRY);
    }
    RecipeScheduler x = Kit.fresh();
    Kit.throwsJust(Kit.ARGUMENT, "load() of nothing", x::load);
    Kit.due("the length", Kit.length(x), 0);
  }

  @Sentence(LOADED)
  static void promise4AllIsNewAfterAValidSetup() {
    String setup = "recipe 4 30 5 6;pan o 1;pan p 5;step x 60 9 in p;step y 1 0 after x;"
        + "step z 5 5 alone after x;step w 2 2;";
    String crowded = "recipe 1 0 0 99;pan p 5;pan q 4;pan r 3;" + "step a 2 1 in p hot alone;"
        + "step b 2 1 in q hot alone;step c 2 1 in r hot alone after b a;"
        + "step d 2 1 in p hot alone after c b a;step e 2 1 in p hot alone after d c b a;";
    Kit.Make[] makes = {Kit.NEW, Kit.USED, Kit.SERVED, Kit.atMinute(9999, Kit.NEW),
        Kit.rich(Kit.made(Kit.steps(14)).then(x -> x.pass(9))).then(x -> x.truncate(0)),
        Kit.made(crowded).fed(crowded).then(RecipeScheduler::load, x -> x.pass(61)),
        Kit.made("recipe 1 9 0 9;step a 1 1 hot;").then(x -> x.pass(9)),
        Kit.rich(Kit.made(ProgressTermsBoundaries.BURNT_AFTER).then(x -> x.pass(8)))
            .then(x -> x.truncate(0))};
    String due = Kit.state(Kit.loaded(setup));
    for (int i = 0; i < makes.length; i++) {
      Kit.Make after = makes[i].fed(setup).then(RecipeScheduler::load);
      Kit.due("the state of object " + i, Kit.state(after.made()), due);
      Kit.throwsJust(Kit.STATE, "undo()", () -> after.made().undo());
      Kit.throwsJust(Kit.STATE, "restore(0)", () -> after.made().restore(0));
      Kit.throwsJust(Kit.STATE, "restore(1)", () -> after.made().restore(1));
      RecipeScheduler by = Kit.loaded(setup);
      RecipeScheduler x = after.made();
      Kit.due("minute()", x.minute(), 0);
      Kit.due("salt()", x.salt(), 0);
      Kit.due("starts()", x.starts(), 0);
      Kit.due("completions()", x.completions(), 0);
      Kit.due("burns()", x.burns(), 0);
      Kit.due("cookMinutes()", x.cookMinutes(), 0);
      Kit.due("inconsistencies()", x.inconsistencies(), 0);
      for (int minutes : new int[] {2, 61}) {
        x.pass(minutes);
        by.pass(minutes);
        Kit.due("the state of object " + i + " later", Kit.state(x), Kit.state(by));
      }
    }
  }

  @Sentence("Returns the number of steps.")
  static void promise4NumbersFrom1To14() {
    for (int count = 1; count <= 14; count++) {
      Kit.due("load()", Kit.load(Kit.fresh(), Kit.steps(count)), count);
    }
  }

  @Sentence("Throws `IllegalArgumentException` if the text has an error; in this case only the "
      + "buffer, the error code and the error position change")
  static void promise4AFaultyTextChangesTheBufferAndTheErrorOnly() {
    for (int code = 1; code <= 5; code++) {
      Kit.badSetup(code, FAULTY[code - 1]);
    }
    Kit.badSetup("", 1, 0);
    // All but the last semicolon is a good setup.
    String good = "recipe 4 30 5 6;pan p 5;step x 60 9 in p hot alone;step y 1 0 after x";
    Kit.badSetup(good, 1, good.length());
    Kit.goodSetup(good + ";", 2);
  }

  @Sentence("Returns the error code of the latest call of load() or runScript().")
  static void promise5TheLatestTextGivesTheCode() {
    RecipeScheduler x = Kit.fresh();
    Kit.feed(x, "recipe 0");
    Kit.throwsJust(Kit.ARGUMENT, "load()", x::load);
    Kit.due("errorCode() of load()", x.errorCode(), 2);
    Kit.feed(x, "stop nobody");
    Kit.due("errorCode() ahead of the call", x.errorCode(), 2);
    Kit.throwsJust(Kit.ARGUMENT, "runScript()", x::runScript);
    Kit.due("errorCode() of runScript()", x.errorCode(), 3);
    Kit.throwsJust(Kit.ARGUMENT, "load()", x::load);
    Kit.due("errorCode() of load()", x.errorCode(), 1);
    x.setCooks(2);
    x.undo();
    Kit.due("errorCode() after other calls", x.errorCode(), 1);
    Kit.due("runScript()", x.runScript(), 0);
    Kit.due("errorCode() of runScript()", x.errorCode(), 0);
  }

  @Sentence(CODES)
  static void promise5CodesFrom0To5() {
    Kit.due("errorCode() of no text", Kit.fresh().errorCode(), 0);
    for (int code = 1; code <= 5; code++) {
      RecipeScheduler x = Kit.fresh();
      Kit.feed(x, FAULTY[code - 1].replace("^", ""));
      Kit.throwsJust(Kit.ARGUMENT, "load()", x::load);
      Kit.due("errorCode()", x.errorCode(), code);
      if (code % 2 == 1) {
        Kit.load(x, Kit.DEFAULT);
      } else {
        Kit.script(x, "pass 1;");
      }
      Kit.due("errorCode() of a good text", x.errorCode(), 0);
    }
    RecipeScheduler y = Kit.fresh();
    Kit.due("runScript() that stops at once", Kit.script(y, "serve;"), 0);
    Kit.due("errorCode()", y.errorCode(), 0);
    Kit.due("findStep()", Kit.NEW.fed("fry").made().findStep(), Kit.FRY);
  }

  @Sentence("Returns the error position of the latest call of load() or runScript().")
  static void promise6TheLatestTextGivesThePosition() {
    RecipeScheduler x = Kit.fresh();
    Kit.feed(x, "recipe 0");
    Kit.throwsJust(Kit.ARGUMENT, "load()", x::load);
    Kit.due("errorPosition() of load()", x.errorPosition(), 7);
    Kit.feed(x, "stop nobody");
    Kit.due("errorPosition() ahead of the call", x.errorPosition(), 7);
    Kit.throwsJust(Kit.ARGUMENT, "runScript()", x::runScript);
    Kit.due("errorPosition() of runScript()", x.errorPosition(), 5);
    Kit.throwsJust(Kit.ARGUMENT, "load()", x::load);
    Kit.due("errorPosition() of load()", x.errorPosition(), 0);
    x.setCooks(2);
    x.undo();
    Kit.due("errorPosition() after other calls", x.errorPosition(), 0);
    Kit.due("runScript()", x.runScript(), 0);
    Kit.due("errorPosition() of runScript()", x.errorPosition(), NONE);
  }

  @Sentence(POSITIONS)
  static void promise6PositionsFrom0To700OrNone() {
    Kit.due("errorPosition() of no text", Kit.fresh().errorPosition(), NONE);
    for (int position : new int[] {0, 1, 350, 698, 699}) {
      RecipeScheduler x = Kit.fresh();
      Kit.feed(x, " ".repeat(position) + "?");
      Kit.throwsJust(Kit.ARGUMENT, "load()", x::load);
      Kit.due("errorPosition()", x.errorPosition(), position);
      Kit.load(x, Kit.DEFAULT);
      Kit.due("errorPosition() of a good text", x.errorPosition(), NONE);
    }
    RecipeScheduler x = Kit.fresh();
    Kit.feed(x, " ".repeat(700));
    Kit.throwsJust(Kit.ARGUMENT, "load()", x::load);
    Kit.due("errorPosition() of an end", x.errorPosition(), 700);
    Kit.due("runScript() that stops at once", Kit.script(x, "serve;"), 0);
    Kit.due("errorPosition()", x.errorPosition(), NONE);
  }
}
