/** Promises 7 to 29 at their limits: what the recipe answers. */
final class RecipeBoundaries {
  private static final int NONE = RecipeScheduler.NONE;
  private static final String A_STEP = "`step`: number of a step";
  private static final String NO_STEP =
      "Throws `IndexOutOfBoundsException` if the step does not exist";
  private static final String A_PAN = "`pan`: number of a pan type";
  private static final String NO_PAN =
      "Throws `IndexOutOfBoundsException` if the pan type does not exist";
  private static final String HEAD = "recipe 1 0 0 99;";
  /** Step e follows all four steps ahead of it, not in the order of their numbers. */
  private static final String FOUR_AHEAD = HEAD + "step a 1 1;step b 1 1 after a;step c 1 1;"
      + "step d 1 1 after c b;step e 1 1 after c a d b;";

  private RecipeBoundaries() {}

  private static void pans(int count, Kit.ActOf call) {
    StringBuilder text = new StringBuilder(HEAD);
    for (int pan = 0; pan < count; pan++) {
      text.append("pan ").append((char) ('p' + pan)).append(" 5;");
    }
    Kit.Make make = Kit.rich(Kit.made(text + "step a 1 1;"));
    for (int pan = 0; pan < count; pan++) {
      call.on(make.made(), pan);
    }
    Kit.refuses(Kit.BOUNDS, make, "a pan type", Kit.around(count), call);
  }

  @Sentence({"Returns the number of steps.", "Returns 1 to 14."})
  static void promise7CountsFrom1To14() {
    for (int count = 1; count <= 14; count++) {
      Kit.due("stepCount()", Kit.loaded(Kit.steps(count)).stepCount(), count);
    }
  }

  @Sentence({"Returns the number of cooks.", "Returns 1 to 4."})
  static void promise8CooksFrom1To4() {
    for (int cooks = 1; cooks <= 4; cooks++) {
      int set = cooks;
      Kit.due("cooks() as it was set", Kit.NEW.then(x -> x.setCooks(set)).made().cooks(), cooks);
      Kit.due("cooks() as it was loaded",
          Kit.loaded("recipe " + cooks + " 0 0 0;step a 1 1;").cooks(), cooks);
    }
  }

  @Sentence({"Returns the current minute.", "Returns 0 to 9999."})
  static void promise9MinutesFrom0To9999() {
    Kit.due("minute()", Kit.fresh().minute(), 0);
    for (int minute : new int[] {1, 200, 201, 9800, 9998, 9999}) {
      Kit.due("minute()", Kit.atMinute(minute, Kit.NEW).made().minute(), minute);
    }
    Kit.refuses(Kit.STATE, Kit.atMinute(9999, Kit.NEW), "pass(1)", x -> x.pass(1));
  }

  @Sentence({"Returns the salt.", "Returns the salt, which can be negative."})
  static void promise10SaltOnBothSidesOf0() {
    RecipeScheduler x = Kit.fresh();
    Kit.due("salt()", x.salt(), 0);
    x.addSalt(1);
    Kit.due("salt()", x.salt(), 1);
    x.addSalt(-2);
    Kit.due("salt()", x.salt(), -1);
    for (int i = 1; i <= 200; i++) {
      x.addSalt(-9);
    }
    Kit.due("salt()", x.salt(), -1801);
  }

  @Sentence({"Returns the current taste of the dish.",
      "Returns the taste values of all done steps plus the salt."})
  static void promise11NoStepOneStepAllSteps() {
    RecipeScheduler x = Kit.loaded("recipe 4 9 0 99;step a 1 9;step b 2 0;step c 3 8;");
    Kit.due("taste() of nothing", x.taste(), 0);
    x.addSalt(-3);
    int[] due = {-3, -3, 6, 6, 14, 14};
    for (int minute = 0; minute < due.length; minute++) {
      Kit.due("taste() in minute " + minute, x.taste(), due[minute]);
      x.pass(1);
    }
    x.redo(0);
    Kit.due("taste() without a", x.taste(), 5);
    Kit.due("taste() of 14 steps", Kit.made(Kit.steps(14)).then(y -> y.pass(100)).made().taste(),
        45 + 0 + 1 + 2 + 3);
  }

  @Sentence("`status`: WAITING, RUNNING, DONE or BURNT")
  static void promise12TheFirstAndTheLastStatus() {
    RecipeScheduler x = Kit.made(ProgressTermsBoundaries.BURNT_AFTER).then(y -> y.pass(8)).made();
    Kit.due("WAITING", x.countWithStatus(0), 0);
    Kit.due("RUNNING", x.countWithStatus(1), 1);
    Kit.due("DONE", x.countWithStatus(2), 1);
    Kit.due("BURNT", x.countWithStatus(3), 1);
  }

  @Sentence({"Counts the steps with a given status.", "Returns the number of these steps."})
  static void promise12NoneOrAllSteps() {
    RecipeScheduler x = Kit.loaded(Kit.steps(14).replaceAll(" \\d;", " 1 hot alone;"));
    Kit.due("WAITING", x.countWithStatus(RecipeScheduler.WAITING), 14);
    Kit.due("RUNNING", x.countWithStatus(RecipeScheduler.RUNNING), 0);
    x.pass(1);
    Kit.due("WAITING", x.countWithStatus(RecipeScheduler.WAITING), 0);
    Kit.due("RUNNING", x.countWithStatus(RecipeScheduler.RUNNING), 14);
    Kit.due("DONE", Kit.FINISHED.made().countWithStatus(RecipeScheduler.DONE), 5);
  }

  @Sentence({"Counts the steps with a given status.", "Returns the number of these steps."})
  static void promise12TwoBurntSteps() {
    RecipeScheduler x = Kit.made("recipe 2 0 0 99;step a 5 1 hot;step b 5 1 hot;step c 4 1;"
        + "step d 4 1;").then(y -> y.pass(7)).made();
    Kit.due("summary", Kit.summary(x), "a* b* c3 d3");
    Kit.due("BURNT", x.countWithStatus(RecipeScheduler.BURNT), 2);
    Kit.due("WAITING", x.countWithStatus(RecipeScheduler.WAITING), 0);
  }

  @Sentence("Throws `IllegalArgumentException` if status is none of these")
  static void promise12OtherStatusesAreRefused() {
    Kit.refuses(Kit.ARGUMENT, Kit.USED, "countWithStatus",
        new int[] {-1, 4, 5, 32, Integer.MAX_VALUE, Integer.MIN_VALUE},
        (x, status) -> x.countWithStatus(status));
  }

  @Sentence({"Returns how often a step was started since the latest setup.",
      "Returns the number of starts of all steps."})
  static void promise13StartsFrom0() {
    RecipeScheduler x = Kit.fresh();
    Kit.due("starts()", x.starts(), 0);
    x.pass(1);
    Kit.due("starts() of cut", x.starts(), 1);
    x.stop(0);
    Kit.due("starts() after stop()", x.starts(), 1);
    x.pass(4);
    Kit.due("starts() of cut again, boil and fry", x.starts(), 4);
    Kit.feed(x, "recipe");
    Kit.throwsJust(Kit.ARGUMENT, "load()", x::load);
    Kit.due("starts() after a faulty setup", x.starts(), 4);
    Kit.load(x, Kit.steps(14));
    Kit.due("starts() after a valid setup", x.starts(), 0);
    x.pass(1);
    Kit.due("starts() by four cooks", x.starts(), 4);
  }

  @Sentence({"Returns how often a step became done since the latest setup.",
      "Returns the number of completions of all steps."})
  static void promise14CompletionsFrom0() {
    RecipeScheduler x = Kit.fresh();
    x.pass(3);
    Kit.due("completions(), cut with 1 minute left", x.completions(), 0);
    x.pass(1);
    Kit.due("completions()", x.completions(), 1);
    x.pass(13);
    Kit.due("completions() with fry twice", x.completions(), 6);
    x.redo(Kit.REST);
    Kit.due("completions() after redo()", x.completions(), 6);
    x.pass(5);
    Kit.due("completions() with rest twice", x.completions(), 7);
    Kit.load(x, Kit.DEFAULT);
    Kit.due("completions() after a valid setup", x.completions(), 0);
  }

  @Sentence({"Returns how often a step became burnt since the latest setup.",
      "Returns the number of burns of all steps."})
  static void promise15BurnsFrom0() {
    RecipeScheduler x = Kit.loaded("recipe 2 0 0 99;step a 1 1 hot;step b 1 1 hot;step c 1 1;");
    int[] due = {0, 0, 0, 2, 2, 4, 4, 6};
    for (int minute = 0; minute < due.length; minute++) {
      Kit.due("burns() in minute " + minute, x.burns(), due[minute]);
      x.pass(1);
    }
    x.undo();
    x.undo();
    Kit.due("burns() after undo()", x.burns(), 4);
    Kit.load(x, Kit.DEFAULT);
    Kit.due("burns() after a valid setup", x.burns(), 0);
  }

  @Sentence("Each running step that is not unattended counts once in each minute, in phase 1.")
  static void promise16AStepCountsFromTheMinuteAfterItsStartToItsLast() {
    RecipeScheduler x = Kit.loaded("recipe 2 9 0 99;step a 1 1;step b 3 1;step c 9 1 alone;");
    int[] due = {0, 0, 2, 3, 4, 4, 4};
    for (int minute = 0; minute < due.length; minute++) {
      Kit.due("cookMinutes() in minute " + minute, x.cookMinutes(), due[minute]);
      x.pass(1);
    }
  }

  @Sentence({"Returns the minutes of work of all cooks since the latest setup.",
      "Returns the number of minutes."})
  static void promise16NoCookAndFourCooks() {
    RecipeScheduler x = Kit.made(Kit.steps(14)).then(y -> y.pass(2)).made();
    Kit.due("cookMinutes() of four cooks", x.cookMinutes(), 4);
    x.stop(13);
    Kit.due("cookMinutes() after stop()", x.cookMinutes(), 4);
    Kit.load(x, HEAD + "step a 9 1 alone;");
    x.pass(20);
    Kit.due("cookMinutes() of no cook", x.cookMinutes(), 0);
  }

  @Sentence({"Returns the capacity of a pan type.", "Returns 1 to 5."})
  static void promise17CapacitiesFrom1To5() {
    RecipeScheduler x = Kit.loaded(HEAD + "pan p 1;pan q 5;pan r 2;pan s 4;step a 1 1;");
    int[] due = {1, 5, 2, 4};
    for (int pan = 0; pan < 4; pan++) {
      Kit.due("panCapacity " + pan, x.panCapacity(pan), due[pan]);
    }
    Kit.due("panCapacity(0)", Kit.loaded(HEAD + "pan p 3;step a 1 1;").panCapacity(0), 3);
  }

  @Sentence({A_PAN, NO_PAN})
  static void promise17OtherPanTypesAreRefused() {
    for (int count : new int[] {0, 1, 2, 4}) {
      pans(count, (x, pan) -> x.panCapacity(pan));
    }
  }

  @Sentence({"Returns how many pans of a pan type are occupied.",
      "Returns the number of steps that occupy one of its pans."})
  static void promise18NumbersFrom0UpToMoreThanTheCapacity() {
    RecipeScheduler x = Kit.loaded("recipe 4 9 0 99;pan o 1;pan p 2;step a 1 1 in p;"
        + "step b 9 1 after a;step c 8 1 in p alone;step d 7 1 in p;");
    Kit.due("pansInUse(1)", x.pansInUse(1), 0);
    x.pass(2);
    Kit.due("pansInUse(1) by c and d", x.pansInUse(1), 2);
    Kit.due("pansInUse(0)", x.pansInUse(0), 0);
    x.stop(1);
    Kit.due("pansInUse(1) by a too", x.pansInUse(1), 3);
    RecipeScheduler all = Kit.loaded("recipe 1 9 0 99;pan p 5;" + Kit.steps(14).substring(16)
        .replaceAll(";", " in p alone;"));
    all.pass(1);
    Kit.due("pansInUse(0) of 5 pans", all.pansInUse(0), 5);
  }

  @Sentence({A_PAN, NO_PAN})
  static void promise18OtherPanTypesAreRefused() {
    for (int count : new int[] {0, 1, 2, 4}) {
      pans(count, (x, pan) -> x.pansInUse(pan));
    }
  }

  @Sentence({"Returns the duration of a step.", "Returns 1 to 60."})
  static void promise19DurationsFrom1To60() {
    RecipeScheduler x = Kit.loaded(HEAD + "step a 1 1;step b 60 1;");
    Kit.due("duration(0)", x.duration(0), 1);
    Kit.due("duration(1)", x.duration(1), 60);
    x.setDuration(0, 60);
    x.setDuration(1, 1);
    Kit.due("duration(0)", x.duration(0), 60);
    Kit.due("duration(1)", x.duration(1), 1);
  }

  @Sentence({A_STEP, NO_STEP})
  static void promise19OtherStepsAreRefused() {
    Kit.answersStepsThatExist("duration", (x, step) -> x.duration(step), step -> step + 1);
  }

  @Sentence({"Returns the taste value of a step.", "Returns 0 to 9."})
  static void promise20TastesFrom0To9() {
    RecipeScheduler x = Kit.loaded(HEAD + "step a 1 0;step b 1 9;");
    Kit.due("stepTaste(0)", x.stepTaste(0), 0);
    Kit.due("stepTaste(1)", x.stepTaste(1), 9);
  }

  @Sentence({A_STEP, NO_STEP})
  static void promise20OtherStepsAreRefused() {
    Kit.answersStepsThatExist("stepTaste", (x, step) -> x.stepTaste(step), step -> step % 10);
  }

  @Sentence("Returns the number of the pan type; NONE if the step needs none.")
  static void promise21TheFirstTheLastOrNoPanType() {
    RecipeScheduler x = Kit.loaded(HEAD + "pan p 1;pan q 1;pan r 1;pan s 1;step a 1 1 in p;"
        + "step b 1 1;step c 1 1 in s;step d 1 1 hot;");
    int[] due = {0, NONE, 3, NONE};
    for (int step = 0; step < 4; step++) {
      Kit.due("panType " + step, x.panType(step), due[step]);
    }
    Kit.load(x, HEAD + "pan p 1;step a 1 1;step b 1 1 in p;");
    Kit.due("panType(0) of another recipe", x.panType(0), NONE);
    Kit.due("panType(1) of another recipe", x.panType(1), 0);
  }

  @Sentence({A_STEP, NO_STEP})
  static void promise21OtherStepsAreRefused() {
    Kit.answersStepsThatExist("panType", (x, step) -> x.panType(step), step -> NONE);
  }

  @Sentence("Returns whether it is hot.")
  static void promise22TheFirstAndTheLastStep() {
    RecipeScheduler x = Kit.loaded(Kit.steps(13).replaceFirst("1 0;", "1 0 hot;")
        + "step n 1 1 hot;");
    for (int step = 0; step < 14; step++) {
      Kit.due("isHot " + step, x.isHot(step), step == 0 || step == 13);
    }
    Kit.load(x, Kit.steps(14));
    Kit.due("isHot(0) of another recipe", x.isHot(0), false);
  }

  @Sentence({A_STEP, NO_STEP})
  static void promise22OtherStepsAreRefused() {
    Kit.answersStepsThatExist("isHot", (x, step) -> x.isHot(step), step -> false);
  }

  @Sentence("Returns whether it is unattended.")
  static void promise23TheFirstAndTheLastStep() {
    RecipeScheduler x = Kit.loaded(Kit.steps(13).replaceFirst("1 0;", "1 0 alone;")
        + "step n 1 1 alone;");
    for (int step = 0; step < 14; step++) {
      Kit.due("isUnattended " + step, x.isUnattended(step), step == 0 || step == 13);
    }
    Kit.load(x, Kit.steps(14));
    Kit.due("isUnattended(0) of another recipe", x.isUnattended(0), false);
  }

  @Sentence({A_STEP, NO_STEP})
  static void promise23OtherStepsAreRefused() {
    Kit.answersStepsThatExist("isUnattended", (x, step) -> x.isUnattended(step), step -> false);
  }

  @Sentence({"`index`: position in the list of predecessors of the setup text, from 0",
      "Returns the number of the predecessor; NONE if index is negative or there are not so many."})
  static void promise24IndexesOnBothSidesOfTheList() {
    RecipeScheduler x = Kit.loaded(FOUR_AHEAD);
    int[][] due = {{}, {0}, {}, {2, 1}, {2, 0, 3, 1}};
    for (int step = 0; step < 5; step++) {
      for (int index : new int[] {-1, 0, 1, 2, 3, 4, 5, 32, Integer.MAX_VALUE,
          Integer.MIN_VALUE}) {
        boolean listed = index >= 0 && index < due[step].length;
        Kit.due("predecessor " + step + " " + index, x.predecessor(step, index),
            listed ? due[step][index] : NONE);
      }
    }
  }

  @Sentence({A_STEP, NO_STEP})
  static void promise24OtherStepsAreRefused() {
    Kit.answersStepsThatExist("predecessor", (x, step) -> x.predecessor(step, 0), step -> NONE);
    Kit.answersStepsThatExist("predecessor", (x, step) -> x.predecessor(step, -1), step -> NONE);
  }

  @Sentence({"Counts the successors of a step.", "Returns the number of successors."})
  static void promise25CountsFrom0To13() {
    RecipeScheduler x = Kit.loaded(FOUR_AHEAD);
    int[] due = {2, 2, 2, 1, 0};
    for (int step = 0; step < 5; step++) {
      Kit.due("successorCount " + step, x.successorCount(step), due[step]);
    }
    Kit.due("successorCount(0)", Kit.loaded(Kit.fan(14)).successorCount(0), 13);
  }

  @Sentence({A_STEP, NO_STEP})
  static void promise25OtherStepsAreRefused() {
    Kit.answersStepsThatExist("successorCount", (x, step) -> x.successorCount(step), step -> 0);
  }

  @Sentence({"Tells whether a step depends on another step, directly or through other steps.",
      "Returns true if there is a chain of predecessors from step to other; false if both are the "
      + "same step."})
  static void promise26ChainsOf0To13Steps() {
    RecipeScheduler x = Kit.loaded(Kit.chain(14, 1));
    for (int step = 0; step < 14; step++) {
      for (int other = 0; other < 14; other++) {
        Kit.due("dependsOn " + step + " " + other, x.dependsOn(step, other), step > other);
      }
    }
    RecipeScheduler y = Kit.loaded(HEAD + "step a 1 1;step b 1 1;step c 1 1 after a;"
        + "step d 1 1 after b;step e 1 1 after c;");
    Kit.due("dependsOn(4, 0)", y.dependsOn(4, 0), true);
    Kit.due("dependsOn(4, 1), another chain", y.dependsOn(4, 1), false);
    Kit.due("dependsOn(4, 3), another chain", y.dependsOn(4, 3), false);
  }

  @Sentence({A_STEP, "`other`: number of a step",
      "Throws `IndexOutOfBoundsException` if one of the steps does not exist"})
  static void promise26OtherStepsAreRefused() {
    Kit.answersStepsThatExist("dependsOn 0", (x, step) -> x.dependsOn(step, 0), step -> false);
    Kit.answersStepsThatExist("dependsOn 0", (x, step) -> x.dependsOn(0, step), step -> false);
    Kit.answersStepsThatExist("dependsOn", (x, step) -> x.dependsOn(step, step), step -> false);
  }

  @Sentence({"Returns the path length of a step.", "Returns the path length in minutes."})
  static void promise27LengthsFrom1To840() {
    RecipeScheduler x = Kit.loaded(Kit.chain(14, 60));
    Kit.due("pathLength(0)", x.pathLength(0), 840);
    x.setDuration(13, 1);
    Kit.due("pathLength(13)", x.pathLength(13), 1);
    Kit.due("pathLength(12)", x.pathLength(12), 61);
    Kit.due("pathLength(0)", x.pathLength(0), 781);
    x.undo();
    Kit.due("pathLength(0)", x.pathLength(0), 840);
  }

  @Sentence({A_STEP, NO_STEP})
  static void promise27OtherStepsAreRefused() {
    Kit.answersStepsThatExist("pathLength", (x, step) -> x.pathLength(step), step -> step + 1);
  }

  @Sentence({"`index`: position in the name, from 0", "Returns the letter as a byte."})
  static void promise28LettersFrom97To122() {
    RecipeScheduler x = Kit.loaded(HEAD + "step z 1 1;step abcxyz 1 1;step ab 1 1;");
    Kit.due("nameLetter(0, 0)", x.nameLetter(0, 0), 122);
    int[] due = {97, 98, 99, 120, 121, 122};
    for (int index = 0; index < 6; index++) {
      Kit.due("nameLetter 1 " + index, x.nameLetter(1, index), due[index]);
    }
    Kit.due("nameLetter(2, 1)", x.nameLetter(2, 1), 98);
  }

  @Sentence({A_STEP, "Throws `IndexOutOfBoundsException` if the step does not exist, or the name "
      + "has no such letter"})
  static void promise28OtherStepsAndLettersAreRefused() {
    Kit.answersStepsThatExist("nameLetter", (x, step) -> x.nameLetter(step, 0), step -> 'a' + step);
    Kit.Make make = Kit.rich(Kit.made(HEAD + "step a 1 1;step abcdef 1 1;step ab 1 1;"));
    int[] lengths = {1, 6, 2};
    for (int step = 0; step < 3; step++) {
      int of = step;
      Kit.refuses(Kit.BOUNDS, make, "nameLetter " + step, Kit.around(lengths[step]),
          (x, index) -> x.nameLetter(of, index));
    }
    // The longer names of an earlier recipe have left nothing behind.
    RecipeScheduler x = Kit.loaded(HEAD + "step abcdef 1 1;");
    Kit.load(x, HEAD + "step xy 1 1;");
    Kit.throwsJust(Kit.BOUNDS, "nameLetter(0, 2)", () -> x.nameLetter(0, 2));
  }

  @Sentence({"Finds a step by its name.",
      "Returns the number of the step whose name equals the whole input buffer, which stays "
      + "unchanged."})
  static void promise29TheWholeBufferIsTheName() {
    RecipeScheduler x = Kit.loaded(HEAD + "step a 1 1;step ab 1 1;step abcdef 1 1;step z 1 1;");
    String[] names = {"a", "ab", "abcdef", "z"};
    for (int step = 0; step < 4; step++) {
      x.truncate(0);
      Kit.feed(x, names[step]);
      Kit.due("findStep()", x.findStep(), step);
      Kit.due("findStep() once more", x.findStep(), step);
      Kit.due("the length", Kit.length(x), names[step].length());
    }
  }

  @Sentence("Throws `NoSuchElementException` if no step has this name")
  static void promise29OtherTextsAreRefused() {
    Kit.Make make = Kit.rich(Kit.made(HEAD + "pan p 1;step ab 1 1;step abcdef 1 1;"))
        .then(x -> x.truncate(0));
    for (String text : new String[] {"", " ", "a", "abc", "b", " ab", "ab ", "ab\n", "ab;", "AB",
        "aB", "abcde", "abcdefg", "abab", "p", "cut", "0", "ab\0", "\u00e1b", "x".repeat(700)}) {
      Kit.refuses(Kit.ELEMENT, make.fed(text), "findStep() of \"" + text + "\"",
          RecipeScheduler::findStep);
    }
    // What was cut off counts no longer, though it would go on as the name does.
    for (int length : new int[] {0, 1, 3, 4, 5}) {
      Kit.refuses(Kit.ELEMENT, make.fed("abcdef").then(x -> x.truncate(length)),
          "findStep() of " + length + " letters", RecipeScheduler::findStep);
    }
    Kit.due("findStep() of 2 letters",
        make.fed("abcdef").then(x -> x.truncate(2)).made().findStep(), 0);
  }
}
